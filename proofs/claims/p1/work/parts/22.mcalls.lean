set_option maxRecDepth 20000 in
theorem ggX9_as_X9_isCell : GoodIn wsX9_as wsX9_isCell := goodIn_r _ [9, 10, 11, 12, 8, 13, 14, 15, 16, 17, 18, 31, 32, 33, 34, 35, 36, 37, 38, 39, 40, 41, 42, 43, 44, 45, 46, 47, 48, 49, 50, 51, 52, 53, 54, 55, 56, 57, 58, 59] (by decide +kernel) (by decide +kernel)
set_option maxRecDepth 20000 in
theorem gX9_as_X9_isCell : GoodIn wsX9_as (wsV RX9 195 RX9 yX9_isCell wsX9_isCell) := goodIn_app (goodIn_of _ (by decide +kernel)) ggX9_as_X9_isCell
set_option maxRecDepth 20000 in
theorem ggX9_ask_X9_isCell : GoodIn wsX9_ask wsX9_isCell := goodIn_r _ [8, 9, 10, 11, 7, 12, 13, 14, 15, 16, 17, 56, 57, 58, 59, 60, 61, 62, 63, 64, 65, 66, 67, 68, 69, 70, 71, 72, 73, 74, 75, 76, 77, 78, 79, 80, 81, 82, 83, 84] (by decide +kernel) (by decide +kernel)
set_option maxRecDepth 20000 in
theorem gX9_ask_X9_isCell : GoodIn wsX9_ask (wsV RX9 195 RX9 yX9_isCell wsX9_isCell) := goodIn_app (goodIn_of _ (by decide +kernel)) ggX9_ask_X9_isCell
set_option maxRecDepth 20000 in
theorem ggX9_copy_X9_finding : GoodIn wsX9_copy wsX9_finding := goodIn_r _ [18, 3, 19, 20, 21, 22, 23, 24, 25, 26, 27, 28, 29, 30, 31, 32, 33, 34, 35, 36, 37, 38, 39, 40, 41, 42, 43, 44, 45, 46, 47, 48] (by decide +kernel) (by decide +kernel)
set_option maxRecDepth 20000 in
theorem gX9_copy_X9_finding : GoodIn wsX9_copy (wsV RX9 74 RX9 yX9_finding wsX9_finding) := goodIn_app (goodIn_of _ (by decide +kernel)) ggX9_copy_X9_finding
set_option maxRecDepth 20000 in
theorem ggX9_copy_X9_isSheet : GoodIn wsX9_copy wsX9_isSheet := goodIn_r _ [10, 11, 12, 13, 9, 14] (by decide +kernel) (by decide +kernel)
set_option maxRecDepth 20000 in
theorem gX9_copy_X9_isSheet : GoodIn wsX9_copy (va_wsS RX9 67 yX9_isSheet wsX9_isSheet) := goodIn_app (goodIn_of _ (by decide +kernel)) ggX9_copy_X9_isSheet
set_option maxRecDepth 20000 in
theorem ggX9_count_X9_howMany : GoodIn wsX9_count wsX9_howMany := goodIn_r _ [10, 3, 11, 12, 13, 9, 14, 15, 16, 17, 18, 19, 20, 21, 22, 23, 24, 25, 26, 27, 28, 29, 30, 31, 32, 33, 34, 35, 36, 37, 38, 39, 40, 41, 42, 43, 44, 45, 46, 47, 48, 49, 50, 51] (by decide +kernel) (by decide +kernel)
set_option maxRecDepth 20000 in
theorem gX9_count_X9_howMany : GoodIn wsX9_count (wsV RX9 327 RX9 yX9_howMany wsX9_howMany) := goodIn_app (goodIn_of _ (by decide +kernel)) ggX9_count_X9_howMany
set_option maxRecDepth 20000 in
theorem ggX9_drop_X9_finding : GoodIn wsX9_drop wsX9_finding := goodIn_r _ [17, 3, 18, 19, 20, 21, 22, 23, 24, 25, 26, 27, 28, 29, 30, 31, 32, 33, 34, 35, 36, 37, 38, 39, 40, 41, 42, 43, 44, 45, 46, 47] (by decide +kernel) (by decide +kernel)
set_option maxRecDepth 20000 in
theorem gX9_drop_X9_finding : GoodIn wsX9_drop (wsV RX9 74 RX9 yX9_finding wsX9_finding) := goodIn_app (goodIn_of _ (by decide +kernel)) ggX9_drop_X9_finding
set_option maxRecDepth 20000 in
theorem ggX9_drop_X9_isSheet : GoodIn wsX9_drop wsX9_isSheet := goodIn_r _ [9, 10, 11, 12, 8, 13] (by decide +kernel) (by decide +kernel)
set_option maxRecDepth 20000 in
theorem gX9_drop_X9_isSheet : GoodIn wsX9_drop (va_wsS RX9 67 yX9_isSheet wsX9_isSheet) := goodIn_app (goodIn_of _ (by decide +kernel)) ggX9_drop_X9_isSheet
set_option maxRecDepth 20000 in
theorem ggX9_feed_X9_in : GoodIn wsX9_feed wsX9_in := goodIn_r _ [11] (by decide +kernel) (by decide +kernel)
set_option maxRecDepth 20000 in
theorem gX9_feed_X9_in : GoodIn wsX9_feed (va_wsS RX9 63 yX9_in wsX9_in) := goodIn_app (goodIn_of _ (by decide +kernel)) ggX9_feed_X9_in
set_option maxRecDepth 20000 in
theorem ggX9_home_X9_isOne : GoodIn wsX9_home wsX9_isOne := goodIn_r _ [13, 14, 15, 16, 12, 17, 88, 89, 90, 91, 92, 93, 94, 95, 96, 97, 98, 99, 100, 101, 102, 103, 104, 105, 106, 107, 108, 109, 110, 111, 112, 113, 114, 115, 116] (by decide +kernel) (by decide +kernel)
set_option maxRecDepth 20000 in
theorem gX9_home_X9_isOne : GoodIn wsX9_home (wsV RX9 247 RX9 yX9_isOne wsX9_isOne) := goodIn_app (goodIn_of _ (by decide +kernel)) ggX9_home_X9_isOne
set_option maxRecDepth 20000 in
theorem ggX9_howMany_X9_isCell : GoodIn wsX9_howMany wsX9_isCell := goodIn_r _ [6, 7, 8, 9, 5, 10, 11, 12, 13, 14, 1, 15, 16, 17, 18, 19, 20, 21, 22, 23, 24, 25, 26, 27, 28, 29, 30, 31, 32, 33, 34, 35, 36, 37, 38, 39, 40, 41, 42, 43] (by decide +kernel) (by decide +kernel)
set_option maxRecDepth 20000 in
theorem gX9_howMany_X9_isCell : GoodIn wsX9_howMany (wsV RX9 195 RX9 yX9_isCell wsX9_isCell) := goodIn_app (goodIn_of _ (by decide +kernel)) ggX9_howMany_X9_isCell
set_option maxRecDepth 20000 in
theorem ggX9_image_X9_in : GoodIn wsX9_image wsX9_in := goodIn_r _ [11] (by decide +kernel) (by decide +kernel)
set_option maxRecDepth 20000 in
theorem gX9_image_X9_in : GoodIn wsX9_image (va_wsS RX9 63 yX9_in wsX9_in) := goodIn_app (goodIn_of _ (by decide +kernel)) ggX9_image_X9_in
set_option maxRecDepth 20000 in
theorem ggX9_kind_X9_isCell : GoodIn wsX9_kind wsX9_isCell := goodIn_r _ [7, 8, 9, 10, 6, 11, 12, 13, 14, 15, 16, 21, 22, 23, 24, 25, 26, 27, 28, 29, 30, 31, 32, 33, 34, 35, 36, 37, 38, 39, 40, 41, 42, 43, 44, 45, 46, 47, 48, 49] (by decide +kernel) (by decide +kernel)
set_option maxRecDepth 20000 in
theorem gX9_kind_X9_isCell : GoodIn wsX9_kind (wsV RX9 195 RX9 yX9_isCell wsX9_isCell) := goodIn_app (goodIn_of _ (by decide +kernel)) ggX9_kind_X9_isCell
set_option maxRecDepth 20000 in
theorem ggX9_look_X9_isOpen : GoodIn wsX9_look wsX9_isOpen := goodIn_r _ [11, 12, 13, 14, 15, 10, 16, 17, 18, 19, 20, 21, 22, 23, 24, 55, 56, 57, 58, 59, 60, 61, 62, 63, 64, 65, 66, 67, 68, 69, 70, 71, 72, 73, 74, 75, 76, 77, 78, 79, 80, 81, 82, 83] (by decide +kernel) (by decide +kernel)
set_option maxRecDepth 20000 in
theorem gX9_look_X9_isOpen : GoodIn wsX9_look (wsV RX9 219 RX9 yX9_isOpen wsX9_isOpen) := goodIn_app (goodIn_of _ (by decide +kernel)) ggX9_look_X9_isOpen
set_option maxRecDepth 20000 in
theorem ggX9_nothing_X9_isOne : GoodIn wsX9_nothing wsX9_isOne := goodIn_r _ [9, 10, 11, 12, 8, 13, 83, 84, 85, 86, 87, 88, 89, 90, 91, 92, 93, 94, 95, 96, 97, 98, 99, 100, 101, 102, 103, 104, 105, 106, 107, 108, 109, 110, 111] (by decide +kernel) (by decide +kernel)
set_option maxRecDepth 20000 in
theorem gX9_nothing_X9_isOne : GoodIn wsX9_nothing (wsV RX9 247 RX9 yX9_isOne wsX9_isOne) := goodIn_app (goodIn_of _ (by decide +kernel)) ggX9_nothing_X9_isOne
set_option maxRecDepth 20000 in
theorem ggX9_person_X9_isOne : GoodIn wsX9_person wsX9_isOne := goodIn_r _ [13, 7, 14, 15, 12, 16, 21, 22, 23, 24, 25, 26, 27, 28, 29, 30, 31, 32, 33, 34, 35, 36, 37, 38, 39, 40, 41, 42, 43, 44, 45, 46, 47, 48, 49] (by decide +kernel) (by decide +kernel)
set_option maxRecDepth 20000 in
theorem gX9_person_X9_isOne : GoodIn wsX9_person (wsV RX9 247 RX9 yX9_isOne wsX9_isOne) := goodIn_app (goodIn_of _ (by decide +kernel)) ggX9_person_X9_isOne
set_option maxRecDepth 20000 in
theorem ggX9_restore_X9_in : GoodIn wsX9_restore wsX9_in := goodIn_r _ [10] (by decide +kernel) (by decide +kernel)
set_option maxRecDepth 20000 in
theorem gX9_restore_X9_in : GoodIn wsX9_restore (va_wsS RX9 63 yX9_in wsX9_in) := goodIn_app (goodIn_of _ (by decide +kernel)) ggX9_restore_X9_in
set_option maxRecDepth 20000 in
theorem ggX9_set_X9_finding : GoodIn wsX9_set wsX9_finding := goodIn_r _ [18, 3, 19, 20, 21, 22, 23, 24, 25, 26, 27, 28, 29, 30, 31, 32, 33, 34, 35, 36, 37, 38, 39, 40, 41, 42, 43, 44, 45, 46, 47, 48] (by decide +kernel) (by decide +kernel)
set_option maxRecDepth 20000 in
theorem gX9_set_X9_finding : GoodIn wsX9_set (wsV RX9 74 RX9 yX9_finding wsX9_finding) := goodIn_app (goodIn_of _ (by decide +kernel)) ggX9_set_X9_finding
set_option maxRecDepth 20000 in
theorem ggX9_set_X9_isSheet : GoodIn wsX9_set wsX9_isSheet := goodIn_r _ [10, 11, 12, 13, 9, 14] (by decide +kernel) (by decide +kernel)
set_option maxRecDepth 20000 in
theorem gX9_set_X9_isSheet : GoodIn wsX9_set (va_wsS RX9 67 yX9_isSheet wsX9_isSheet) := goodIn_app (goodIn_of _ (by decide +kernel)) ggX9_set_X9_isSheet
set_option maxRecDepth 20000 in
theorem ggX9_sheet_X9_finding : GoodIn wsX9_sheet wsX9_finding := goodIn_r _ [19, 4, 20, 21, 22, 23, 24, 25, 26, 27, 28, 29, 30, 31, 32, 33, 34, 35, 36, 37, 38, 39, 40, 41, 42, 43, 44, 45, 46, 47, 48, 49] (by decide +kernel) (by decide +kernel)
set_option maxRecDepth 20000 in
theorem gX9_sheet_X9_finding : GoodIn wsX9_sheet (wsV RX9 74 RX9 yX9_finding wsX9_finding) := goodIn_app (goodIn_of _ (by decide +kernel)) ggX9_sheet_X9_finding
set_option maxRecDepth 20000 in
theorem ggX9_sheet_X9_in : GoodIn wsX9_sheet wsX9_in := goodIn_r _ [15] (by decide +kernel) (by decide +kernel)
set_option maxRecDepth 20000 in
theorem gX9_sheet_X9_in : GoodIn wsX9_sheet (va_wsS RX9 63 yX9_in wsX9_in) := goodIn_app (goodIn_of _ (by decide +kernel)) ggX9_sheet_X9_in
set_option maxRecDepth 20000 in
theorem ggX9_sheet_X9_isSheet : GoodIn wsX9_sheet wsX9_isSheet := goodIn_r _ [11, 12, 13, 14, 10, 15] (by decide +kernel) (by decide +kernel)
set_option maxRecDepth 20000 in
theorem gX9_sheet_X9_isSheet : GoodIn wsX9_sheet (va_wsS RX9 67 yX9_isSheet wsX9_isSheet) := goodIn_app (goodIn_of _ (by decide +kernel)) ggX9_sheet_X9_isSheet
set_option maxRecDepth 20000 in
theorem ggX9_step_X9_isOne : GoodIn wsX9_step wsX9_isOne := goodIn_r _ [7, 8, 9, 10, 6, 11, 62, 63, 64, 65, 66, 67, 68, 69, 70, 71, 72, 73, 74, 75, 76, 77, 78, 79, 80, 81, 82, 83, 84, 85, 86, 87, 88, 89, 90] (by decide +kernel) (by decide +kernel)
set_option maxRecDepth 20000 in
theorem gX9_step_X9_isOne : GoodIn wsX9_step (wsV RX9 247 RX9 yX9_isOne wsX9_isOne) := goodIn_app (goodIn_of _ (by decide +kernel)) ggX9_step_X9_isOne
set_option maxRecDepth 20000 in
theorem ggX9_trace_X9_in : GoodIn wsX9_trace wsX9_in := goodIn_r _ [8] (by decide +kernel) (by decide +kernel)
set_option maxRecDepth 20000 in
theorem gX9_trace_X9_in : GoodIn wsX9_trace (va_wsS RX9 63 yX9_in wsX9_in) := goodIn_app (goodIn_of _ (by decide +kernel)) ggX9_trace_X9_in
set_option maxRecDepth 20000 in
theorem ggX9_walk_X9_isOne : GoodIn wsX9_walk wsX9_isOne := goodIn_r _ [12, 13, 14, 15, 11, 16, 75, 76, 77, 78, 79, 80, 81, 82, 83, 84, 85, 86, 87, 88, 89, 90, 91, 92, 93, 94, 95, 96, 97, 98, 99, 100, 101, 102, 103] (by decide +kernel) (by decide +kernel)
set_option maxRecDepth 20000 in
theorem gX9_walk_X9_isOne : GoodIn wsX9_walk (wsV RX9 247 RX9 yX9_isOne wsX9_isOne) := goodIn_app (goodIn_of _ (by decide +kernel)) ggX9_walk_X9_isOne
set_option maxRecDepth 20000 in
theorem ggX9_wall_X9_isOpen : GoodIn wsX9_wall wsX9_isOpen := goodIn_r _ [8, 3, 9, 10, 11, 7, 12, 13, 14, 15, 16, 17, 18, 19, 20, 95, 96, 97, 98, 99, 100, 101, 102, 103, 104, 105, 106, 107, 108, 109, 110, 111, 112, 113, 114, 115, 116, 117, 118, 119, 120, 121, 122, 123] (by decide +kernel) (by decide +kernel)
set_option maxRecDepth 20000 in
theorem gX9_wall_X9_isOpen : GoodIn wsX9_wall (wsV RX9 219 RX9 yX9_isOpen wsX9_isOpen) := goodIn_app (goodIn_of _ (by decide +kernel)) ggX9_wall_X9_isOpen
theorem dX9_as_0 : decode cX9_as 0 = .ok (.aload_n 0, 1) := by decide +kernel
theorem dX9_as_1 : decode cX9_as 1 = .ok (.iconst 0, 1) := by decide +kernel
theorem dX9_as_10 : decode cX9_as 10 = .ok (.ifCond .eq 15, 3) := by decide +kernel
theorem dX9_as_2 : decode cX9_as 2 = .ok (.putfield 53, 3) := by decide +kernel
theorem dX9_as_25 : decode cX9_as 25 = .ok (.ldc 73, 2) := by decide +kernel
theorem dX9_as_27 : decode cX9_as 27 = .ok (.ireturn, 1) := by decide +kernel
theorem dX9_as_5 : decode cX9_as 5 = .ok (.aload_n 0, 1) := by decide +kernel
theorem dX9_as_6 : decode cX9_as 6 = .ok (.iload_n 1, 1) := by decide +kernel
theorem dX9_as_7 : decode cX9_as 7 = .ok (.invokevirtual 195, 3) := by decide +kernel
theorem dX9_ask_0 : decode cX9_ask 0 = .ok (.aload_n 0, 1) := by decide +kernel
theorem dX9_ask_1 : decode cX9_ask 1 = .ok (.iconst 0, 1) := by decide +kernel
theorem dX9_ask_10 : decode cX9_ask 10 = .ok (.ifCond .eq 13, 3) := by decide +kernel
theorem dX9_ask_2 : decode cX9_ask 2 = .ok (.putfield 53, 3) := by decide +kernel
theorem dX9_ask_23 : decode cX9_ask 23 = .ok (.ldc 73, 2) := by decide +kernel
theorem dX9_ask_25 : decode cX9_ask 25 = .ok (.ireturn, 1) := by decide +kernel
theorem dX9_ask_5 : decode cX9_ask 5 = .ok (.aload_n 0, 1) := by decide +kernel
theorem dX9_ask_6 : decode cX9_ask 6 = .ok (.iload_n 1, 1) := by decide +kernel
theorem dX9_ask_7 : decode cX9_ask 7 = .ok (.invokevirtual 195, 3) := by decide +kernel
theorem dX9_beauty_0 : decode cX9_beauty 0 = .ok (.aload_n 0, 1) := by decide +kernel
theorem dX9_beauty_1 : decode cX9_beauty 1 = .ok (.iconst 0, 1) := by decide +kernel
theorem dX9_beauty_12 : decode cX9_beauty 12 = .ok (.ldc 233, 2) := by decide +kernel
theorem dX9_beauty_14 : decode cX9_beauty 14 = .ok (.ireturn, 1) := by decide +kernel
theorem dX9_beauty_2 : decode cX9_beauty 2 = .ok (.putfield 53, 3) := by decide +kernel
theorem dX9_beauty_5 : decode cX9_beauty 5 = .ok (.aload_n 0, 1) := by decide +kernel
theorem dX9_beauty_6 : decode cX9_beauty 6 = .ok (.getfield 185, 3) := by decide +kernel
theorem dX9_beauty_9 : decode cX9_beauty 9 = .ok (.ifCond .ne 6, 3) := by decide +kernel
theorem dX9_copy_0 : decode cX9_copy 0 = .ok (.aload_n 0, 1) := by decide +kernel
theorem dX9_copy_1 : decode cX9_copy 1 = .ok (.iconst 0, 1) := by decide +kernel
theorem dX9_copy_12 : decode cX9_copy 12 = .ok (.iload_n 3, 1) := by decide +kernel
theorem dX9_copy_13 : decode cX9_copy 13 = .ok (.invokestatic 67, 3) := by decide +kernel
theorem dX9_copy_16 : decode cX9_copy 16 = .ok (.ifCond .ne 6, 3) := by decide +kernel
theorem dX9_copy_19 : decode cX9_copy 19 = .ok (.ldc 73, 2) := by decide +kernel
theorem dX9_copy_2 : decode cX9_copy 2 = .ok (.putfield 53, 3) := by decide +kernel
theorem dX9_copy_21 : decode cX9_copy 21 = .ok (.ireturn, 1) := by decide +kernel
theorem dX9_copy_22 : decode cX9_copy 22 = .ok (.aload_n 0, 1) := by decide +kernel
theorem dX9_copy_23 : decode cX9_copy 23 = .ok (.iconst 0, 1) := by decide +kernel
theorem dX9_copy_24 : decode cX9_copy 24 = .ok (.putfield 57, 3) := by decide +kernel
theorem dX9_copy_27 : decode cX9_copy 27 = .ok (.aload_n 0, 1) := by decide +kernel
theorem dX9_copy_28 : decode cX9_copy 28 = .ok (.getfield 7, 3) := by decide +kernel
theorem dX9_copy_31 : decode cX9_copy 31 = .ok (.iload_n 1, 1) := by decide +kernel
theorem dX9_copy_32 : decode cX9_copy 32 = .ok (.iaload, 1) := by decide +kernel
theorem dX9_copy_33 : decode cX9_copy 33 = .ok (.ifCond .lt 12, 3) := by decide +kernel
theorem dX9_copy_45 : decode cX9_copy 45 = .ok (.aload_n 0, 1) := by decide +kernel
theorem dX9_copy_46 : decode cX9_copy 46 = .ok (.iconst 1, 1) := by decide +kernel
theorem dX9_copy_47 : decode cX9_copy 47 = .ok (.invokevirtual 74, 3) := by decide +kernel
theorem dX9_copy_5 : decode cX9_copy 5 = .ok (.iload_n 1, 1) := by decide +kernel
theorem dX9_copy_50 : decode cX9_copy 50 = .ok (.ireturn, 1) := by decide +kernel
theorem dX9_copy_6 : decode cX9_copy 6 = .ok (.invokestatic 67, 3) := by decide +kernel
theorem dX9_copy_9 : decode cX9_copy 9 = .ok (.ifCond .eq 10, 3) := by decide +kernel
theorem dX9_count_0 : decode cX9_count 0 = .ok (.aload_n 0, 1) := by decide +kernel
theorem dX9_count_1 : decode cX9_count 1 = .ok (.iconst 0, 1) := by decide +kernel
theorem dX9_count_100 : decode cX9_count 100 = .ok (.getfield 19, 3) := by decide +kernel
theorem dX9_count_103 : decode cX9_count 103 = .ok (.iconst 3, 1) := by decide +kernel
theorem dX9_count_104 : decode cX9_count 104 = .ok (.iaload, 1) := by decide +kernel
theorem dX9_count_105 : decode cX9_count 105 = .ok (.ireturn, 1) := by decide +kernel
theorem dX9_count_106 : decode cX9_count 106 = .ok (.aload_n 0, 1) := by decide +kernel
theorem dX9_count_107 : decode cX9_count 107 = .ok (.iload_n 1, 1) := by decide +kernel
theorem dX9_count_108 : decode cX9_count 108 = .ok (.iconst 5, 1) := by decide +kernel
theorem dX9_count_109 : decode cX9_count 109 = .ok (.if_icmp .ne 7, 3) := by decide +kernel
theorem dX9_count_112 : decode cX9_count 112 = .ok (.iconst 1, 1) := by decide +kernel
theorem dX9_count_113 : decode cX9_count 113 = .ok (.goto 4, 3) := by decide +kernel
theorem dX9_count_116 : decode cX9_count 116 = .ok (.iconst 0, 1) := by decide +kernel
theorem dX9_count_117 : decode cX9_count 117 = .ok (.invokevirtual 327, 3) := by decide +kernel
theorem dX9_count_120 : decode cX9_count 120 = .ok (.ireturn, 1) := by decide +kernel
theorem dX9_count_121 : decode cX9_count 121 = .ok (.aload_n 0, 1) := by decide +kernel
theorem dX9_count_122 : decode cX9_count 122 = .ok (.getfield 80, 3) := by decide +kernel
theorem dX9_count_125 : decode cX9_count 125 = .ok (.ireturn, 1) := by decide +kernel
theorem dX9_count_126 : decode cX9_count 126 = .ok (.ldc 73, 2) := by decide +kernel
theorem dX9_count_128 : decode cX9_count 128 = .ok (.ireturn, 1) := by decide +kernel
theorem dX9_count_2 : decode cX9_count 2 = .ok (.putfield 53, 3) := by decide +kernel
theorem dX9_count_5 : decode cX9_count 5 = .ok (.iconst 0, 1) := by decide +kernel
theorem dX9_count_52 : decode cX9_count 52 = .ok (.iconst 0, 1) := by decide +kernel
theorem dX9_count_53 : decode cX9_count 53 = .ok (.istore_n 3, 1) := by decide +kernel
theorem dX9_count_54 : decode cX9_count 54 = .ok (.iload_n 3, 1) := by decide +kernel
theorem dX9_count_55 : decode cX9_count 55 = .ok (.bipush 8, 2) := by decide +kernel
theorem dX9_count_57 : decode cX9_count 57 = .ok (.if_icmp .ge 26, 3) := by decide +kernel
theorem dX9_count_6 : decode cX9_count 6 = .ok (.istore_n 2, 1) := by decide +kernel
theorem dX9_count_60 : decode cX9_count 60 = .ok (.iload_n 2, 1) := by decide +kernel
theorem dX9_count_61 : decode cX9_count 61 = .ok (.aload_n 0, 1) := by decide +kernel
theorem dX9_count_62 : decode cX9_count 62 = .ok (.getfield 7, 3) := by decide +kernel
theorem dX9_count_65 : decode cX9_count 65 = .ok (.iload_n 3, 1) := by decide +kernel
theorem dX9_count_66 : decode cX9_count 66 = .ok (.iaload, 1) := by decide +kernel
theorem dX9_count_67 : decode cX9_count 67 = .ok (.ifCond .lt 7, 3) := by decide +kernel
theorem dX9_count_7 : decode cX9_count 7 = .ok (.iload_n 1, 1) := by decide +kernel
theorem dX9_count_74 : decode cX9_count 74 = .ok (.iconst 0, 1) := by decide +kernel
theorem dX9_count_75 : decode cX9_count 75 = .ok (.iadd, 1) := by decide +kernel
theorem dX9_count_76 : decode cX9_count 76 = .ok (.istore_n 2, 1) := by decide +kernel
theorem dX9_count_77 : decode cX9_count 77 = .ok (.iinc 3 1, 3) := by decide +kernel
theorem dX9_count_8 : decode cX9_count 8 = .ok (.tableswitch 118 0 6 #[44, 77, 84, 91, 98, 98, 113], 44) := by decide +kernel
theorem dX9_count_80 : decode cX9_count 80 = .ok (.goto (-26), 3) := by decide +kernel
theorem dX9_count_83 : decode cX9_count 83 = .ok (.iload_n 2, 1) := by decide +kernel
theorem dX9_count_84 : decode cX9_count 84 = .ok (.ireturn, 1) := by decide +kernel
theorem dX9_count_85 : decode cX9_count 85 = .ok (.aload_n 0, 1) := by decide +kernel
theorem dX9_count_86 : decode cX9_count 86 = .ok (.getfield 19, 3) := by decide +kernel
theorem dX9_count_89 : decode cX9_count 89 = .ok (.iconst 0, 1) := by decide +kernel
theorem dX9_count_90 : decode cX9_count 90 = .ok (.iaload, 1) := by decide +kernel
theorem dX9_count_91 : decode cX9_count 91 = .ok (.ireturn, 1) := by decide +kernel
theorem dX9_count_92 : decode cX9_count 92 = .ok (.aload_n 0, 1) := by decide +kernel
theorem dX9_count_93 : decode cX9_count 93 = .ok (.getfield 19, 3) := by decide +kernel
theorem dX9_count_96 : decode cX9_count 96 = .ok (.iconst 1, 1) := by decide +kernel
theorem dX9_count_97 : decode cX9_count 97 = .ok (.iaload, 1) := by decide +kernel
theorem dX9_count_98 : decode cX9_count 98 = .ok (.ireturn, 1) := by decide +kernel
theorem dX9_count_99 : decode cX9_count 99 = .ok (.aload_n 0, 1) := by decide +kernel
theorem dX9_drop_0 : decode cX9_drop 0 = .ok (.aload_n 0, 1) := by decide +kernel
theorem dX9_drop_1 : decode cX9_drop 1 = .ok (.iconst 0, 1) := by decide +kernel
theorem dX9_drop_12 : decode cX9_drop 12 = .ok (.ldc 73, 2) := by decide +kernel
theorem dX9_drop_14 : decode cX9_drop 14 = .ok (.ireturn, 1) := by decide +kernel
theorem dX9_drop_15 : decode cX9_drop 15 = .ok (.aload_n 0, 1) := by decide +kernel
theorem dX9_drop_16 : decode cX9_drop 16 = .ok (.iconst 0, 1) := by decide +kernel
theorem dX9_drop_17 : decode cX9_drop 17 = .ok (.putfield 57, 3) := by decide +kernel
theorem dX9_drop_2 : decode cX9_drop 2 = .ok (.putfield 53, 3) := by decide +kernel
theorem dX9_drop_20 : decode cX9_drop 20 = .ok (.aload_n 0, 1) := by decide +kernel
theorem dX9_drop_21 : decode cX9_drop 21 = .ok (.getfield 7, 3) := by decide +kernel
theorem dX9_drop_24 : decode cX9_drop 24 = .ok (.iload_n 1, 1) := by decide +kernel
theorem dX9_drop_25 : decode cX9_drop 25 = .ok (.iaload, 1) := by decide +kernel
theorem dX9_drop_26 : decode cX9_drop 26 = .ok (.ifCond .ge 9, 3) := by decide +kernel
theorem dX9_drop_29 : decode cX9_drop 29 = .ok (.aload_n 0, 1) := by decide +kernel
theorem dX9_drop_30 : decode cX9_drop 30 = .ok (.iconst 1, 1) := by decide +kernel
theorem dX9_drop_31 : decode cX9_drop 31 = .ok (.invokevirtual 74, 3) := by decide +kernel
theorem dX9_drop_34 : decode cX9_drop 34 = .ok (.ireturn, 1) := by decide +kernel
theorem dX9_drop_5 : decode cX9_drop 5 = .ok (.iload_n 1, 1) := by decide +kernel
theorem dX9_drop_6 : decode cX9_drop 6 = .ok (.invokestatic 67, 3) := by decide +kernel
theorem dX9_drop_9 : decode cX9_drop 9 = .ok (.ifCond .ne 6, 3) := by decide +kernel
theorem dX9_earns_0 : decode cX9_earns 0 = .ok (.aload_n 0, 1) := by decide +kernel
theorem dX9_earns_1 : decode cX9_earns 1 = .ok (.iconst 0, 1) := by decide +kernel
theorem dX9_earns_12 : decode cX9_earns 12 = .ok (.ldc 233, 2) := by decide +kernel
theorem dX9_earns_14 : decode cX9_earns 14 = .ok (.ireturn, 1) := by decide +kernel
theorem dX9_earns_2 : decode cX9_earns 2 = .ok (.putfield 53, 3) := by decide +kernel
theorem dX9_earns_5 : decode cX9_earns 5 = .ok (.aload_n 0, 1) := by decide +kernel
theorem dX9_earns_6 : decode cX9_earns 6 = .ok (.getfield 185, 3) := by decide +kernel
theorem dX9_earns_9 : decode cX9_earns 9 = .ok (.ifCond .ne 6, 3) := by decide +kernel
theorem dX9_fault_0 : decode cX9_fault 0 = .ok (.aload_n 0, 1) := by decide +kernel
theorem dX9_fault_1 : decode cX9_fault 1 = .ok (.iconst 0, 1) := by decide +kernel
theorem dX9_fault_2 : decode cX9_fault 2 = .ok (.putfield 53, 3) := by decide +kernel
theorem dX9_fault_5 : decode cX9_fault 5 = .ok (.aload_n 0, 1) := by decide +kernel
theorem dX9_fault_6 : decode cX9_fault 6 = .ok (.getfield 181, 3) := by decide +kernel
theorem dX9_fault_9 : decode cX9_fault 9 = .ok (.ireturn, 1) := by decide +kernel
theorem dX9_feed_0 : decode cX9_feed 0 = .ok (.aload_n 0, 1) := by decide +kernel
theorem dX9_feed_1 : decode cX9_feed 1 = .ok (.iconst 0, 1) := by decide +kernel
theorem dX9_feed_11 : decode cX9_feed 11 = .ok (.invokestatic 63, 3) := by decide +kernel
theorem dX9_feed_14 : decode cX9_feed 14 = .ok (.ifCond .ne 6, 3) := by decide +kernel
theorem dX9_feed_17 : decode cX9_feed 17 = .ok (.ldc 73, 2) := by decide +kernel
theorem dX9_feed_19 : decode cX9_feed 19 = .ok (.ireturn, 1) := by decide +kernel
theorem dX9_feed_2 : decode cX9_feed 2 = .ok (.putfield 53, 3) := by decide +kernel
theorem dX9_feed_5 : decode cX9_feed 5 = .ok (.iload_n 3, 1) := by decide +kernel
theorem dX9_feed_6 : decode cX9_feed 6 = .ok (.i2l, 1) := by decide +kernel
theorem dX9_feed_7 : decode cX9_feed 7 = .ok (.lconst 1, 1) := by decide +kernel
theorem dX9_feed_8 : decode cX9_feed 8 = .ok (.ldc2_w 78, 3) := by decide +kernel
theorem dX9_got_0 : decode cX9_got 0 = .ok (.aload_n 0, 1) := by decide +kernel
theorem dX9_got_1 : decode cX9_got 1 = .ok (.iconst 0, 1) := by decide +kernel
theorem dX9_got_12 : decode cX9_got 12 = .ok (.ldc 233, 2) := by decide +kernel
theorem dX9_got_14 : decode cX9_got 14 = .ok (.ireturn, 1) := by decide +kernel
theorem dX9_got_2 : decode cX9_got 2 = .ok (.putfield 53, 3) := by decide +kernel
theorem dX9_got_5 : decode cX9_got 5 = .ok (.aload_n 0, 1) := by decide +kernel
theorem dX9_got_6 : decode cX9_got 6 = .ok (.getfield 185, 3) := by decide +kernel
theorem dX9_got_9 : decode cX9_got 9 = .ok (.ifCond .ne 6, 3) := by decide +kernel
theorem dX9_home_0 : decode cX9_home 0 = .ok (.aload_n 0, 1) := by decide +kernel
theorem dX9_home_1 : decode cX9_home 1 = .ok (.iconst 0, 1) := by decide +kernel
theorem dX9_home_10 : decode cX9_home 10 = .ok (.ifCond .eq 35, 3) := by decide +kernel
theorem dX9_home_2 : decode cX9_home 2 = .ok (.putfield 53, 3) := by decide +kernel
theorem dX9_home_45 : decode cX9_home 45 = .ok (.ldc 73, 2) := by decide +kernel
theorem dX9_home_47 : decode cX9_home 47 = .ok (.ireturn, 1) := by decide +kernel
theorem dX9_home_5 : decode cX9_home 5 = .ok (.aload_n 0, 1) := by decide +kernel
theorem dX9_home_6 : decode cX9_home 6 = .ok (.iload_n 1, 1) := by decide +kernel
theorem dX9_home_7 : decode cX9_home 7 = .ok (.invokevirtual 247, 3) := by decide +kernel
theorem dX9_howMany_0 : decode cX9_howMany 0 = .ok (.iconst 0, 1) := by decide +kernel
theorem dX9_howMany_1 : decode cX9_howMany 1 = .ok (.istore_n 2, 1) := by decide +kernel
theorem dX9_howMany_10 : decode cX9_howMany 10 = .ok (.aload_n 0, 1) := by decide +kernel
theorem dX9_howMany_11 : decode cX9_howMany 11 = .ok (.getfield 19, 3) := by decide +kernel
theorem dX9_howMany_14 : decode cX9_howMany 14 = .ok (.iconst 4, 1) := by decide +kernel
theorem dX9_howMany_15 : decode cX9_howMany 15 = .ok (.iload_n 3, 1) := by decide +kernel
theorem dX9_howMany_16 : decode cX9_howMany 16 = .ok (.iadd, 1) := by decide +kernel
theorem dX9_howMany_17 : decode cX9_howMany 17 = .ok (.iaload, 1) := by decide +kernel
theorem dX9_howMany_18 : decode cX9_howMany 18 = .ok (.istore 4, 2) := by decide +kernel
theorem dX9_howMany_2 : decode cX9_howMany 2 = .ok (.iconst 0, 1) := by decide +kernel
theorem dX9_howMany_20 : decode cX9_howMany 20 = .ok (.iload_n 2, 1) := by decide +kernel
theorem dX9_howMany_21 : decode cX9_howMany 21 = .ok (.aload_n 0, 1) := by decide +kernel
theorem dX9_howMany_22 : decode cX9_howMany 22 = .ok (.iload_n 3, 1) := by decide +kernel
theorem dX9_howMany_23 : decode cX9_howMany 23 = .ok (.invokevirtual 195, 3) := by decide +kernel
theorem dX9_howMany_26 : decode cX9_howMany 26 = .ok (.ifCond .eq 25, 3) := by decide +kernel
theorem dX9_howMany_3 : decode cX9_howMany 3 = .ok (.istore_n 3, 1) := by decide +kernel
theorem dX9_howMany_4 : decode cX9_howMany 4 = .ok (.iload_n 3, 1) := by decide +kernel
theorem dX9_howMany_5 : decode cX9_howMany 5 = .ok (.bipush 80, 2) := by decide +kernel
theorem dX9_howMany_51 : decode cX9_howMany 51 = .ok (.iconst 0, 1) := by decide +kernel
theorem dX9_howMany_52 : decode cX9_howMany 52 = .ok (.iadd, 1) := by decide +kernel
theorem dX9_howMany_53 : decode cX9_howMany 53 = .ok (.istore_n 2, 1) := by decide +kernel
theorem dX9_howMany_54 : decode cX9_howMany 54 = .ok (.iinc 3 1, 3) := by decide +kernel
theorem dX9_howMany_57 : decode cX9_howMany 57 = .ok (.goto (-53), 3) := by decide +kernel
theorem dX9_howMany_60 : decode cX9_howMany 60 = .ok (.iload_n 2, 1) := by decide +kernel
theorem dX9_howMany_61 : decode cX9_howMany 61 = .ok (.ireturn, 1) := by decide +kernel
theorem dX9_howMany_7 : decode cX9_howMany 7 = .ok (.if_icmp .ge 53, 3) := by decide +kernel
theorem dX9_image_0 : decode cX9_image 0 = .ok (.aload_n 0, 1) := by decide +kernel
theorem dX9_image_1 : decode cX9_image 1 = .ok (.iconst 0, 1) := by decide +kernel
theorem dX9_image_12 : decode cX9_image 12 = .ok (.ifCond .ne 6, 3) := by decide +kernel
theorem dX9_image_15 : decode cX9_image 15 = .ok (.ldc 73, 2) := by decide +kernel
theorem dX9_image_17 : decode cX9_image 17 = .ok (.ireturn, 1) := by decide +kernel
theorem dX9_image_18 : decode cX9_image 18 = .ok (.aload_n 0, 1) := by decide +kernel
theorem dX9_image_19 : decode cX9_image 19 = .ok (.getfield 185, 3) := by decide +kernel
theorem dX9_image_2 : decode cX9_image 2 = .ok (.putfield 53, 3) := by decide +kernel
theorem dX9_image_22 : decode cX9_image 22 = .ok (.ifCond .ne 6, 3) := by decide +kernel
theorem dX9_image_25 : decode cX9_image 25 = .ok (.ldc 233, 2) := by decide +kernel
theorem dX9_image_27 : decode cX9_image 27 = .ok (.ireturn, 1) := by decide +kernel
theorem dX9_image_5 : decode cX9_image 5 = .ok (.iload_n 1, 1) := by decide +kernel
theorem dX9_image_6 : decode cX9_image 6 = .ok (.i2l, 1) := by decide +kernel
theorem dX9_image_7 : decode cX9_image 7 = .ok (.lconst 0, 1) := by decide +kernel
theorem dX9_image_8 : decode cX9_image 8 = .ok (.lconst 1, 1) := by decide +kernel
theorem dX9_image_9 : decode cX9_image 9 = .ok (.invokestatic 63, 3) := by decide +kernel
theorem dX9_kind_0 : decode cX9_kind 0 = .ok (.aload_n 0, 1) := by decide +kernel
theorem dX9_kind_1 : decode cX9_kind 1 = .ok (.iconst 0, 1) := by decide +kernel
theorem dX9_kind_10 : decode cX9_kind 10 = .ok (.ifCond .eq 11, 3) := by decide +kernel
theorem dX9_kind_2 : decode cX9_kind 2 = .ok (.putfield 53, 3) := by decide +kernel
theorem dX9_kind_21 : decode cX9_kind 21 = .ok (.ldc 73, 2) := by decide +kernel
theorem dX9_kind_23 : decode cX9_kind 23 = .ok (.ireturn, 1) := by decide +kernel
theorem dX9_kind_5 : decode cX9_kind 5 = .ok (.aload_n 0, 1) := by decide +kernel
theorem dX9_kind_6 : decode cX9_kind 6 = .ok (.iload_n 1, 1) := by decide +kernel
theorem dX9_kind_7 : decode cX9_kind 7 = .ok (.invokevirtual 195, 3) := by decide +kernel
theorem dX9_look_0 : decode cX9_look 0 = .ok (.aload_n 0, 1) := by decide +kernel
theorem dX9_look_1 : decode cX9_look 1 = .ok (.iconst 0, 1) := by decide +kernel
theorem dX9_look_10 : decode cX9_look 10 = .ok (.ifCond .eq 22, 3) := by decide +kernel
theorem dX9_look_2 : decode cX9_look 2 = .ok (.putfield 53, 3) := by decide +kernel
theorem dX9_look_32 : decode cX9_look 32 = .ok (.ldc 73, 2) := by decide +kernel
theorem dX9_look_34 : decode cX9_look 34 = .ok (.ireturn, 1) := by decide +kernel
theorem dX9_look_5 : decode cX9_look 5 = .ok (.aload_n 0, 1) := by decide +kernel
theorem dX9_look_6 : decode cX9_look 6 = .ok (.iload_n 1, 1) := by decide +kernel
theorem dX9_look_7 : decode cX9_look 7 = .ok (.invokevirtual 219, 3) := by decide +kernel
theorem dX9_nothing_0 : decode cX9_nothing 0 = .ok (.aload_n 0, 1) := by decide +kernel
theorem dX9_nothing_1 : decode cX9_nothing 1 = .ok (.iconst 0, 1) := by decide +kernel
theorem dX9_nothing_10 : decode cX9_nothing 10 = .ok (.ifCond .ne 6, 3) := by decide +kernel
theorem dX9_nothing_13 : decode cX9_nothing 13 = .ok (.ldc 73, 2) := by decide +kernel
theorem dX9_nothing_15 : decode cX9_nothing 15 = .ok (.ireturn, 1) := by decide +kernel
theorem dX9_nothing_2 : decode cX9_nothing 2 = .ok (.putfield 53, 3) := by decide +kernel
theorem dX9_nothing_5 : decode cX9_nothing 5 = .ok (.aload_n 0, 1) := by decide +kernel
theorem dX9_nothing_6 : decode cX9_nothing 6 = .ok (.iload_n 1, 1) := by decide +kernel
theorem dX9_nothing_7 : decode cX9_nothing 7 = .ok (.invokevirtual 247, 3) := by decide +kernel
theorem dX9_person_0 : decode cX9_person 0 = .ok (.aload_n 0, 1) := by decide +kernel
theorem dX9_person_1 : decode cX9_person 1 = .ok (.iconst 0, 1) := by decide +kernel
theorem dX9_person_10 : decode cX9_person 10 = .ok (.ifCond .ne 6, 3) := by decide +kernel
theorem dX9_person_13 : decode cX9_person 13 = .ok (.ldc 73, 2) := by decide +kernel
theorem dX9_person_15 : decode cX9_person 15 = .ok (.ireturn, 1) := by decide +kernel
theorem dX9_person_2 : decode cX9_person 2 = .ok (.putfield 53, 3) := by decide +kernel
theorem dX9_person_5 : decode cX9_person 5 = .ok (.aload_n 0, 1) := by decide +kernel
theorem dX9_person_6 : decode cX9_person 6 = .ok (.iload_n 1, 1) := by decide +kernel
theorem dX9_person_7 : decode cX9_person 7 = .ok (.invokevirtual 247, 3) := by decide +kernel
theorem dX9_price_0 : decode cX9_price 0 = .ok (.aload_n 0, 1) := by decide +kernel
theorem dX9_price_1 : decode cX9_price 1 = .ok (.iconst 0, 1) := by decide +kernel
theorem dX9_price_12 : decode cX9_price 12 = .ok (.ldc 233, 2) := by decide +kernel
theorem dX9_price_14 : decode cX9_price 14 = .ok (.ireturn, 1) := by decide +kernel
theorem dX9_price_2 : decode cX9_price 2 = .ok (.putfield 53, 3) := by decide +kernel
theorem dX9_price_5 : decode cX9_price 5 = .ok (.aload_n 0, 1) := by decide +kernel
theorem dX9_price_6 : decode cX9_price 6 = .ok (.getfield 185, 3) := by decide +kernel
theorem dX9_price_9 : decode cX9_price 9 = .ok (.ifCond .ne 6, 3) := by decide +kernel
theorem dX9_restore_0 : decode cX9_restore 0 = .ok (.aload_n 0, 1) := by decide +kernel
theorem dX9_restore_1 : decode cX9_restore 1 = .ok (.iconst 0, 1) := by decide +kernel
theorem dX9_restore_12 : decode cX9_restore 12 = .ok (.ifCond .ne 6, 3) := by decide +kernel
theorem dX9_restore_15 : decode cX9_restore 15 = .ok (.ldc 73, 2) := by decide +kernel
theorem dX9_restore_17 : decode cX9_restore 17 = .ok (.ireturn, 1) := by decide +kernel
theorem dX9_restore_18 : decode cX9_restore 18 = .ok (.aload_n 0, 1) := by decide +kernel
theorem dX9_restore_19 : decode cX9_restore 19 = .ok (.getfield 43, 3) := by decide +kernel
theorem dX9_restore_2 : decode cX9_restore 2 = .ok (.putfield 53, 3) := by decide +kernel
theorem dX9_restore_22 : decode cX9_restore 22 = .ok (.iload_n 1, 1) := by decide +kernel
theorem dX9_restore_23 : decode cX9_restore 23 = .ok (.baload, 1) := by decide +kernel
theorem dX9_restore_24 : decode cX9_restore 24 = .ok (.ifCond .ne 6, 3) := by decide +kernel
theorem dX9_restore_27 : decode cX9_restore 27 = .ok (.ldc 233, 2) := by decide +kernel
theorem dX9_restore_29 : decode cX9_restore 29 = .ok (.ireturn, 1) := by decide +kernel
theorem dX9_restore_5 : decode cX9_restore 5 = .ok (.iload_n 1, 1) := by decide +kernel
theorem dX9_restore_6 : decode cX9_restore 6 = .ok (.i2l, 1) := by decide +kernel
theorem dX9_restore_7 : decode cX9_restore 7 = .ok (.lconst 0, 1) := by decide +kernel
theorem dX9_restore_8 : decode cX9_restore 8 = .ok (.lconst 1, 1) := by decide +kernel
theorem dX9_restore_9 : decode cX9_restore 9 = .ok (.invokestatic 63, 3) := by decide +kernel
theorem dX9_rivals_0 : decode cX9_rivals 0 = .ok (.aload_n 0, 1) := by decide +kernel
theorem dX9_rivals_1 : decode cX9_rivals 1 = .ok (.iconst 0, 1) := by decide +kernel
theorem dX9_rivals_12 : decode cX9_rivals 12 = .ok (.ldc 233, 2) := by decide +kernel
theorem dX9_rivals_14 : decode cX9_rivals 14 = .ok (.ireturn, 1) := by decide +kernel
theorem dX9_rivals_2 : decode cX9_rivals 2 = .ok (.putfield 53, 3) := by decide +kernel
theorem dX9_rivals_5 : decode cX9_rivals 5 = .ok (.aload_n 0, 1) := by decide +kernel
theorem dX9_rivals_6 : decode cX9_rivals 6 = .ok (.getfield 185, 3) := by decide +kernel
theorem dX9_rivals_9 : decode cX9_rivals 9 = .ok (.ifCond .ne 6, 3) := by decide +kernel
theorem dX9_set_0 : decode cX9_set 0 = .ok (.aload_n 0, 1) := by decide +kernel
theorem dX9_set_1 : decode cX9_set 1 = .ok (.iconst 0, 1) := by decide +kernel
theorem dX9_set_12 : decode cX9_set 12 = .ok (.ldc 73, 2) := by decide +kernel
theorem dX9_set_14 : decode cX9_set 14 = .ok (.ireturn, 1) := by decide +kernel
theorem dX9_set_15 : decode cX9_set 15 = .ok (.aload_n 0, 1) := by decide +kernel
theorem dX9_set_16 : decode cX9_set 16 = .ok (.iconst 0, 1) := by decide +kernel
theorem dX9_set_17 : decode cX9_set 17 = .ok (.putfield 57, 3) := by decide +kernel
theorem dX9_set_2 : decode cX9_set 2 = .ok (.putfield 53, 3) := by decide +kernel
theorem dX9_set_20 : decode cX9_set 20 = .ok (.aload_n 0, 1) := by decide +kernel
theorem dX9_set_21 : decode cX9_set 21 = .ok (.getfield 7, 3) := by decide +kernel
theorem dX9_set_24 : decode cX9_set 24 = .ok (.iload_n 1, 1) := by decide +kernel
theorem dX9_set_25 : decode cX9_set 25 = .ok (.iaload, 1) := by decide +kernel
theorem dX9_set_26 : decode cX9_set 26 = .ok (.ifCond .ge 9, 3) := by decide +kernel
theorem dX9_set_29 : decode cX9_set 29 = .ok (.aload_n 0, 1) := by decide +kernel
theorem dX9_set_30 : decode cX9_set 30 = .ok (.iconst 1, 1) := by decide +kernel
theorem dX9_set_31 : decode cX9_set 31 = .ok (.invokevirtual 74, 3) := by decide +kernel
theorem dX9_set_34 : decode cX9_set 34 = .ok (.ireturn, 1) := by decide +kernel
theorem dX9_set_5 : decode cX9_set 5 = .ok (.iload_n 1, 1) := by decide +kernel
theorem dX9_set_6 : decode cX9_set 6 = .ok (.invokestatic 67, 3) := by decide +kernel
theorem dX9_set_9 : decode cX9_set 9 = .ok (.ifCond .ne 6, 3) := by decide +kernel
theorem dX9_sheet_0 : decode cX9_sheet 0 = .ok (.aload_n 0, 1) := by decide +kernel
theorem dX9_sheet_1 : decode cX9_sheet 1 = .ok (.iconst 0, 1) := by decide +kernel
theorem dX9_sheet_12 : decode cX9_sheet 12 = .ok (.iload_n 2, 1) := by decide +kernel
theorem dX9_sheet_13 : decode cX9_sheet 13 = .ok (.i2l, 1) := by decide +kernel
theorem dX9_sheet_14 : decode cX9_sheet 14 = .ok (.lconst 0, 1) := by decide +kernel
theorem dX9_sheet_15 : decode cX9_sheet 15 = .ok (.ldc2_w 71, 3) := by decide +kernel
theorem dX9_sheet_18 : decode cX9_sheet 18 = .ok (.invokestatic 63, 3) := by decide +kernel
theorem dX9_sheet_2 : decode cX9_sheet 2 = .ok (.putfield 53, 3) := by decide +kernel
theorem dX9_sheet_21 : decode cX9_sheet 21 = .ok (.ifCond .eq 9, 3) := by decide +kernel
theorem dX9_sheet_24 : decode cX9_sheet 24 = .ok (.iload_n 3, 1) := by decide +kernel
theorem dX9_sheet_25 : decode cX9_sheet 25 = .ok (.bipush 40, 2) := by decide +kernel
theorem dX9_sheet_27 : decode cX9_sheet 27 = .ok (.if_icmp .le 6, 3) := by decide +kernel
theorem dX9_sheet_30 : decode cX9_sheet 30 = .ok (.ldc 73, 2) := by decide +kernel
theorem dX9_sheet_32 : decode cX9_sheet 32 = .ok (.ireturn, 1) := by decide +kernel
theorem dX9_sheet_33 : decode cX9_sheet 33 = .ok (.aload_n 0, 1) := by decide +kernel
theorem dX9_sheet_34 : decode cX9_sheet 34 = .ok (.iconst 0, 1) := by decide +kernel
theorem dX9_sheet_35 : decode cX9_sheet 35 = .ok (.putfield 57, 3) := by decide +kernel
theorem dX9_sheet_38 : decode cX9_sheet 38 = .ok (.iload_n 3, 1) := by decide +kernel
theorem dX9_sheet_39 : decode cX9_sheet 39 = .ok (.ifCond .ge 9, 3) := by decide +kernel
theorem dX9_sheet_42 : decode cX9_sheet 42 = .ok (.aload_n 0, 1) := by decide +kernel
theorem dX9_sheet_43 : decode cX9_sheet 43 = .ok (.iconst 4, 1) := by decide +kernel
theorem dX9_sheet_44 : decode cX9_sheet 44 = .ok (.invokevirtual 74, 3) := by decide +kernel
theorem dX9_sheet_47 : decode cX9_sheet 47 = .ok (.ireturn, 1) := by decide +kernel
theorem dX9_sheet_48 : decode cX9_sheet 48 = .ok (.aload_n 0, 1) := by decide +kernel
theorem dX9_sheet_49 : decode cX9_sheet 49 = .ok (.getfield 7, 3) := by decide +kernel
theorem dX9_sheet_5 : decode cX9_sheet 5 = .ok (.iload_n 1, 1) := by decide +kernel
theorem dX9_sheet_52 : decode cX9_sheet 52 = .ok (.iload_n 1, 1) := by decide +kernel
theorem dX9_sheet_53 : decode cX9_sheet 53 = .ok (.iload_n 2, 1) := by decide +kernel
theorem dX9_sheet_54 : decode cX9_sheet 54 = .ok (.iastore, 1) := by decide +kernel
theorem dX9_sheet_55 : decode cX9_sheet 55 = .ok (.aload_n 0, 1) := by decide +kernel
theorem dX9_sheet_56 : decode cX9_sheet 56 = .ok (.getfield 13, 3) := by decide +kernel
theorem dX9_sheet_59 : decode cX9_sheet 59 = .ok (.iload_n 1, 1) := by decide +kernel
theorem dX9_sheet_6 : decode cX9_sheet 6 = .ok (.invokestatic 67, 3) := by decide +kernel
theorem dX9_sheet_60 : decode cX9_sheet 60 = .ok (.iload_n 3, 1) := by decide +kernel
theorem dX9_sheet_61 : decode cX9_sheet 61 = .ok (.iastore, 1) := by decide +kernel
theorem dX9_sheet_62 : decode cX9_sheet 62 = .ok (.iconst 0, 1) := by decide +kernel
theorem dX9_sheet_63 : decode cX9_sheet 63 = .ok (.istore 4, 2) := by decide +kernel
theorem dX9_sheet_65 : decode cX9_sheet 65 = .ok (.iload 4, 2) := by decide +kernel
theorem dX9_sheet_67 : decode cX9_sheet 67 = .ok (.bipush 40, 2) := by decide +kernel
theorem dX9_sheet_69 : decode cX9_sheet 69 = .ok (.if_icmp .ge 22, 3) := by decide +kernel
theorem dX9_sheet_72 : decode cX9_sheet 72 = .ok (.aload_n 0, 1) := by decide +kernel
theorem dX9_sheet_73 : decode cX9_sheet 73 = .ok (.getfield 16, 3) := by decide +kernel
theorem dX9_sheet_76 : decode cX9_sheet 76 = .ok (.bipush 40, 2) := by decide +kernel
theorem dX9_sheet_78 : decode cX9_sheet 78 = .ok (.iload_n 1, 1) := by decide +kernel
theorem dX9_sheet_79 : decode cX9_sheet 79 = .ok (.imul, 1) := by decide +kernel
theorem dX9_sheet_80 : decode cX9_sheet 80 = .ok (.iload 4, 2) := by decide +kernel
theorem dX9_sheet_82 : decode cX9_sheet 82 = .ok (.iadd, 1) := by decide +kernel
theorem dX9_sheet_83 : decode cX9_sheet 83 = .ok (.iconst 0, 1) := by decide +kernel
theorem dX9_sheet_84 : decode cX9_sheet 84 = .ok (.iastore, 1) := by decide +kernel
theorem dX9_sheet_85 : decode cX9_sheet 85 = .ok (.iinc 4 1, 3) := by decide +kernel
theorem dX9_sheet_88 : decode cX9_sheet 88 = .ok (.goto (-23), 3) := by decide +kernel
theorem dX9_sheet_9 : decode cX9_sheet 9 = .ok (.ifCond .eq 21, 3) := by decide +kernel
theorem dX9_sheet_91 : decode cX9_sheet 91 = .ok (.iload_n 3, 1) := by decide +kernel
theorem dX9_sheet_92 : decode cX9_sheet 92 = .ok (.ireturn, 1) := by decide +kernel
theorem dX9_status_0 : decode cX9_status 0 = .ok (.aload_n 0, 1) := by decide +kernel
theorem dX9_status_1 : decode cX9_status 1 = .ok (.iconst 0, 1) := by decide +kernel
theorem dX9_status_2 : decode cX9_status 2 = .ok (.putfield 53, 3) := by decide +kernel
theorem dX9_status_5 : decode cX9_status 5 = .ok (.aload_n 0, 1) := by decide +kernel
theorem dX9_status_6 : decode cX9_status 6 = .ok (.getfield 57, 3) := by decide +kernel
theorem dX9_status_9 : decode cX9_status 9 = .ok (.ireturn, 1) := by decide +kernel
theorem dX9_step_0 : decode cX9_step 0 = .ok (.aload_n 0, 1) := by decide +kernel
theorem dX9_step_1 : decode cX9_step 1 = .ok (.iconst 0, 1) := by decide +kernel
theorem dX9_step_10 : decode cX9_step 10 = .ok (.ifCond .eq 21, 3) := by decide +kernel
theorem dX9_step_2 : decode cX9_step 2 = .ok (.putfield 53, 3) := by decide +kernel
theorem dX9_step_31 : decode cX9_step 31 = .ok (.ldc 73, 2) := by decide +kernel
theorem dX9_step_33 : decode cX9_step 33 = .ok (.ireturn, 1) := by decide +kernel
theorem dX9_step_5 : decode cX9_step 5 = .ok (.aload_n 0, 1) := by decide +kernel
theorem dX9_step_6 : decode cX9_step 6 = .ok (.iload_n 1, 1) := by decide +kernel
theorem dX9_step_7 : decode cX9_step 7 = .ok (.invokevirtual 247, 3) := by decide +kernel
theorem dX9_trace_0 : decode cX9_trace 0 = .ok (.aload_n 0, 1) := by decide +kernel
theorem dX9_trace_1 : decode cX9_trace 1 = .ok (.iconst 0, 1) := by decide +kernel
theorem dX9_trace_12 : decode cX9_trace 12 = .ok (.iconst 1, 1) := by decide +kernel
theorem dX9_trace_13 : decode cX9_trace 13 = .ok (.isub, 1) := by decide +kernel
theorem dX9_trace_14 : decode cX9_trace 14 = .ok (.i2l, 1) := by decide +kernel
theorem dX9_trace_15 : decode cX9_trace 15 = .ok (.invokestatic 63, 3) := by decide +kernel
theorem dX9_trace_18 : decode cX9_trace 18 = .ok (.ifCond .eq 12, 3) := by decide +kernel
theorem dX9_trace_2 : decode cX9_trace 2 = .ok (.putfield 53, 3) := by decide +kernel
theorem dX9_trace_30 : decode cX9_trace 30 = .ok (.ldc 89, 2) := by decide +kernel
theorem dX9_trace_32 : decode cX9_trace 32 = .ok (.ireturn, 1) := by decide +kernel
theorem dX9_trace_5 : decode cX9_trace 5 = .ok (.iload_n 1, 1) := by decide +kernel
theorem dX9_trace_6 : decode cX9_trace 6 = .ok (.i2l, 1) := by decide +kernel
theorem dX9_trace_7 : decode cX9_trace 7 = .ok (.lconst 0, 1) := by decide +kernel
theorem dX9_trace_8 : decode cX9_trace 8 = .ok (.aload_n 0, 1) := by decide +kernel
theorem dX9_trace_9 : decode cX9_trace 9 = .ok (.getfield 309, 3) := by decide +kernel
theorem dX9_walk_0 : decode cX9_walk 0 = .ok (.aload_n 0, 1) := by decide +kernel
theorem dX9_walk_1 : decode cX9_walk 1 = .ok (.iconst 0, 1) := by decide +kernel
theorem dX9_walk_10 : decode cX9_walk 10 = .ok (.ifCond .eq 23, 3) := by decide +kernel
theorem dX9_walk_2 : decode cX9_walk 2 = .ok (.putfield 53, 3) := by decide +kernel
theorem dX9_walk_33 : decode cX9_walk 33 = .ok (.ldc 73, 2) := by decide +kernel
theorem dX9_walk_35 : decode cX9_walk 35 = .ok (.ireturn, 1) := by decide +kernel
theorem dX9_walk_5 : decode cX9_walk 5 = .ok (.aload_n 0, 1) := by decide +kernel
theorem dX9_walk_6 : decode cX9_walk 6 = .ok (.iload_n 1, 1) := by decide +kernel
theorem dX9_walk_7 : decode cX9_walk 7 = .ok (.invokevirtual 247, 3) := by decide +kernel
theorem dX9_wall_0 : decode cX9_wall 0 = .ok (.aload_n 0, 1) := by decide +kernel
theorem dX9_wall_1 : decode cX9_wall 1 = .ok (.iconst 0, 1) := by decide +kernel
theorem dX9_wall_10 : decode cX9_wall 10 = .ok (.ifCond .eq 10, 3) := by decide +kernel
theorem dX9_wall_2 : decode cX9_wall 2 = .ok (.putfield 53, 3) := by decide +kernel
theorem dX9_wall_20 : decode cX9_wall 20 = .ok (.ldc 73, 2) := by decide +kernel
theorem dX9_wall_22 : decode cX9_wall 22 = .ok (.ireturn, 1) := by decide +kernel
theorem dX9_wall_5 : decode cX9_wall 5 = .ok (.aload_n 0, 1) := by decide +kernel
theorem dX9_wall_6 : decode cX9_wall 6 = .ok (.iload_n 1, 1) := by decide +kernel
theorem dX9_wall_7 : decode cX9_wall 7 = .ok (.invokevirtual 219, 3) := by decide +kernel
theorem dX9_witnesses_0 : decode cX9_witnesses 0 = .ok (.aload_n 0, 1) := by decide +kernel
theorem dX9_witnesses_1 : decode cX9_witnesses 1 = .ok (.iconst 0, 1) := by decide +kernel
theorem dX9_witnesses_12 : decode cX9_witnesses 12 = .ok (.ldc 233, 2) := by decide +kernel
theorem dX9_witnesses_14 : decode cX9_witnesses 14 = .ok (.ireturn, 1) := by decide +kernel
theorem dX9_witnesses_2 : decode cX9_witnesses 2 = .ok (.putfield 53, 3) := by decide +kernel
theorem dX9_witnesses_5 : decode cX9_witnesses 5 = .ok (.aload_n 0, 1) := by decide +kernel
theorem dX9_witnesses_6 : decode cX9_witnesses 6 = .ok (.getfield 185, 3) := by decide +kernel
theorem dX9_witnesses_9 : decode cX9_witnesses 9 = .ok (.ifCond .ne 6, 3) := by decide +kernel
theorem jX9_as_X9 : ∀ w ∈ u_ws RX9 TX9 29, w ∈ wsX9_as := fun w h => List.mem_cons_of_mem _ (List.mem_append_right _ h)
theorem jX9_ask_X9 : ∀ w ∈ u_ws RX9 TX9 29, w ∈ wsX9_ask := fun w h => List.mem_cons_of_mem _ (List.mem_append_right _ h)
theorem jX9_beauty_X9 : ∀ w ∈ u_ws RX9 TX9 29, w ∈ wsX9_beauty := fun w h => List.mem_cons_of_mem _ (List.mem_append_right _ h)
theorem jX9_copy_X9 : ∀ w ∈ u_ws RX9 TX9 29, w ∈ wsX9_copy := fun w h => List.mem_cons_of_mem _ (List.mem_append_right _ h)
theorem jX9_count_X9 : ∀ w ∈ u_ws RX9 TX9 29, w ∈ wsX9_count := fun w h => List.mem_cons_of_mem _ (List.mem_append_right _ h)
theorem jX9_drop_X9 : ∀ w ∈ u_ws RX9 TX9 29, w ∈ wsX9_drop := fun w h => List.mem_cons_of_mem _ (List.mem_append_right _ h)
theorem jX9_earns_X9 : ∀ w ∈ u_ws RX9 TX9 29, w ∈ wsX9_earns := fun w h => List.mem_cons_of_mem _ (List.mem_append_right _ h)
theorem jX9_fault_X9 : ∀ w ∈ u_ws RX9 TX9 29, w ∈ wsX9_fault := fun w h => List.mem_cons_of_mem _ (List.mem_append_right _ h)
theorem jX9_feed_X9 : ∀ w ∈ u_ws RX9 TX9 29, w ∈ wsX9_feed := fun w h => List.mem_cons_of_mem _ (List.mem_append_right _ h)
theorem jX9_got_X9 : ∀ w ∈ u_ws RX9 TX9 29, w ∈ wsX9_got := fun w h => List.mem_cons_of_mem _ (List.mem_append_right _ h)
theorem jX9_home_X9 : ∀ w ∈ u_ws RX9 TX9 29, w ∈ wsX9_home := fun w h => List.mem_cons_of_mem _ (List.mem_append_right _ h)
theorem jX9_howMany_X9 : ∀ w ∈ u_ws RX9 TX9 29, w ∈ wsX9_howMany := fun w h => List.mem_cons_of_mem _ (List.mem_append_right _ h)
theorem jX9_image_X9 : ∀ w ∈ u_ws RX9 TX9 29, w ∈ wsX9_image := fun w h => List.mem_cons_of_mem _ (List.mem_append_right _ h)
theorem jX9_kind_X9 : ∀ w ∈ u_ws RX9 TX9 29, w ∈ wsX9_kind := fun w h => List.mem_cons_of_mem _ (List.mem_append_right _ h)
theorem jX9_look_X9 : ∀ w ∈ u_ws RX9 TX9 29, w ∈ wsX9_look := fun w h => List.mem_cons_of_mem _ (List.mem_append_right _ h)
theorem jX9_nothing_X9 : ∀ w ∈ u_ws RX9 TX9 29, w ∈ wsX9_nothing := fun w h => List.mem_cons_of_mem _ (List.mem_append_right _ h)
theorem jX9_person_X9 : ∀ w ∈ u_ws RX9 TX9 29, w ∈ wsX9_person := fun w h => List.mem_cons_of_mem _ (List.mem_append_right _ h)
theorem jX9_price_X9 : ∀ w ∈ u_ws RX9 TX9 29, w ∈ wsX9_price := fun w h => List.mem_cons_of_mem _ (List.mem_append_right _ h)
theorem jX9_restore_X9 : ∀ w ∈ u_ws RX9 TX9 29, w ∈ wsX9_restore := fun w h => List.mem_cons_of_mem _ (List.mem_append_right _ h)
theorem jX9_rivals_X9 : ∀ w ∈ u_ws RX9 TX9 29, w ∈ wsX9_rivals := fun w h => List.mem_cons_of_mem _ (List.mem_append_right _ h)
theorem jX9_set_X9 : ∀ w ∈ u_ws RX9 TX9 29, w ∈ wsX9_set := fun w h => List.mem_cons_of_mem _ (List.mem_append_right _ h)
theorem jX9_sheet_X9 : ∀ w ∈ u_ws RX9 TX9 29, w ∈ wsX9_sheet := fun w h => List.mem_cons_of_mem _ (List.mem_append_right _ h)
theorem jX9_status_X9 : ∀ w ∈ u_ws RX9 TX9 29, w ∈ wsX9_status := fun w h => List.mem_cons_of_mem _ (List.mem_append_right _ h)
theorem jX9_step_X9 : ∀ w ∈ u_ws RX9 TX9 29, w ∈ wsX9_step := fun w h => List.mem_cons_of_mem _ (List.mem_append_right _ h)
theorem jX9_trace_X9 : ∀ w ∈ u_ws RX9 TX9 29, w ∈ wsX9_trace := fun w h => List.mem_cons_of_mem _ (List.mem_append_right _ h)
theorem jX9_walk_X9 : ∀ w ∈ u_ws RX9 TX9 29, w ∈ wsX9_walk := fun w h => List.mem_cons_of_mem _ (List.mem_append_right _ h)
theorem jX9_wall_X9 : ∀ w ∈ u_ws RX9 TX9 29, w ∈ wsX9_wall := fun w h => List.mem_cons_of_mem _ (List.mem_append_right _ h)
theorem jX9_witnesses_X9 : ∀ w ∈ u_ws RX9 TX9 29, w ∈ wsX9_witnesses := fun w h => List.mem_cons_of_mem _ (List.mem_append_right _ h)
theorem hdS_X9_isSheet : yX9_isSheet.cls ≠ "java/lang/invoke/MethodHandle" ∧ yX9_isSheet.cls ≠ "java/lang/invoke/VarHandle" ∧ (parseMethodDescriptor yX9_isSheet.desc).map (fun d => d.parameters.length) = some 1 := by decide +kernel
theorem hdV_X9_finding : yX9_finding.cls = RX9 ∧ yX9_finding.cls ≠ "java/lang/invoke/MethodHandle" ∧ yX9_finding.cls ≠ "java/lang/invoke/VarHandle" ∧ (parseMethodDescriptor yX9_finding.desc).map (fun d => d.parameters.length) = some 1 := by decide +kernel
theorem hdV_X9_howMany : yX9_howMany.cls = RX9 ∧ yX9_howMany.cls ≠ "java/lang/invoke/MethodHandle" ∧ yX9_howMany.cls ≠ "java/lang/invoke/VarHandle" ∧ (parseMethodDescriptor yX9_howMany.desc).map (fun d => d.parameters.length) = some 1 := by decide +kernel
theorem hdV_X9_isOne : yX9_isOne.cls = RX9 ∧ yX9_isOne.cls ≠ "java/lang/invoke/MethodHandle" ∧ yX9_isOne.cls ≠ "java/lang/invoke/VarHandle" ∧ (parseMethodDescriptor yX9_isOne.desc).map (fun d => d.parameters.length) = some 1 := by decide +kernel
theorem hdV_X9_isOpen : yX9_isOpen.cls = RX9 ∧ yX9_isOpen.cls ≠ "java/lang/invoke/MethodHandle" ∧ yX9_isOpen.cls ≠ "java/lang/invoke/VarHandle" ∧ (parseMethodDescriptor yX9_isOpen.desc).map (fun d => d.parameters.length) = some 1 := by decide +kernel
theorem cl8 {a : Int32} (h : 0 ≤ a.toInt ∧ a.toInt ≤ 7) : a.toNatClampNeg < 8 := by
  have h2 : a.toNatClampNeg = a.toInt.toNat := rfl
  omega
theorem in40n : ∀ R, R < 8 → ∀ i, i < 40 → ¬ ((40 : Int32) * nI R + nI i < 0 ∨ 320 ≤ ((40 : Int32) * nI R + nI i).toNatClampNeg) := by decide +kernel
theorem in40 {a : Int32} {i : Nat} (h : 0 ≤ a.toInt ∧ a.toInt ≤ 7) (hi : i < 40) : vp_in ((40 : Int32) * a + nI i) 320 := by
  obtain ⟨R, hR, rfl⟩ := nI_of2 (x := a) (M := 7) (n := 7) rfl (by rw [c_lt (N := 0) rfl]; omega) (by rw [c_le (N := 7) rfl]; omega)
  exact in40n R (by omega) i hi
theorem in84n : ∀ i, i < 80 → ¬ ((4 : Int32) + nI i < 0 ∨ 192 ≤ ((4 : Int32) + nI i).toNatClampNeg) := by decide +kernel
theorem in84 {i : Nat} (hi : i < 80) : vp_in ((4 : Int32) + nI i) 192 := in84n i hi
set_option maxHeartbeats 4000000 in
set_option maxRecDepth 100000 in
theorem c_X9_fault (l : Launch) (D : va_G) (cI cZ cC cS : ClassId) (sq sz : Nat) (y : Nat) (y_lane : Nat) (y_many : Nat) (y_item : Nat) (y_city : Nat) (y_fresh : Nat) (y_tape : Nat) (y_cost : Nat) (y_away : Nat) (y_fee : Nat) (y_goesTo : Nat) (y_priceWas : Nat) (y_isKept : Nat) (y_kept : Nat) (y_trace : Nat) : mI l yX9_fault wsX9_fault 0 0 D (tyW cI cZ cC cS) sq [(y, .inr (9, [.int 0, .int 0, .ref y_lane, .ref y_many, .ref y_item, .ref y_city, .ref y_fresh, .int 0, .ref y_tape, .int 0, .int 0, .int 0, .int 0, .int 0, .int 0, .int 0, .int 0, .int 0, .int 0, .int 0, .ref y_cost, .ref y_away, .ref y_fee, .ref y_goesTo, .ref y_priceWas, .ref y_isKept, .ref y_kept, .ref y_trace, .int 0]))] sz [.ref y] (fun r w => r = 0 ∧ w = []) := by
  refine b_metI (cc := cX9_fault) (maxL := 1) (ret := (some .int)) (by decide) rfl (Nat.le_of_ble_eq_true rfl) ?_
  intro p e s m below meth c ls A H X hsz hP hK hD hA hS hl
  have S : CallFix p m c cX9_fault 1 s ([.ref y] : List Value).toArray wsX9_fault RX9 := X.1
  have hl : lv_has ls 1 [(0, .ref y)] := hl
  have iX9 := jX9_fault_X9
  refine lv_aload_n S.1 S.2.1 dX9_fault_0 rfl (lv_at hl 0 rfl) ?_
  refine lv_iconst (v := 0) S.1 S.2.1 dX9_fault_1 (by decide) ?_
  refine b_put (v := .int 0) S iX9 tyX9 tyX9_ok nmX9 hK hP hD hS 0 rfl rfl 0 (by decide) (by decide +kernel) rfl rfl rfl (Nat.le_of_ble_eq_true rfl) dX9_fault_2 (fun H locs hP hD hS => ?_)
  have hP : va_P D vwCl [(y, .inr (9, [.int 0, .int 0, .ref y_lane, .ref y_many, .ref y_item, .ref y_city, .ref y_fresh, .int 0, .ref y_tape, .int 0, .int 0, .int 0, .int 0, .int 0, .int 0, .int 0, .int 0, .int 0, .int 0, .int 0, .ref y_cost, .ref y_away, .ref y_fee, .ref y_goesTo, .ref y_priceWas, .ref y_isKept, .ref y_kept, .ref y_trace, .int 0]))] H := hP
  have hD : va_D A [(y, .inr (9, [.int 0, .int 0, .ref y_lane, .ref y_many, .ref y_item, .ref y_city, .ref y_fresh, .int 0, .ref y_tape, .int 0, .int 0, .int 0, .int 0, .int 0, .int 0, .int 0, .int 0, .int 0, .int 0, .int 0, .ref y_cost, .ref y_away, .ref y_fee, .ref y_goesTo, .ref y_priceWas, .ref y_isKept, .ref y_kept, .ref y_trace, .int 0]))] := hD
  refine lv_aload_n S.1 S.2.1 dX9_fault_5 rfl (lv_at hl 0 rfl) ?_
  refine b_get (v := .int 0) S iX9 hK hP 0 rfl rfl 10 (by decide) (by decide +kernel) rfl dX9_fault_6 ?_
  have hP := hP.sub (ws' := []) [] rfl
  have hD := hD.sub (ws' := []) [] (by decide) rfl
  exact b_iret S.1 S.2.1 X.2.1 X.2.2.1 hP hD hS ⟨rfl, rfl⟩ dX9_fault_9
set_option maxHeartbeats 4000000 in
set_option maxRecDepth 100000 in
theorem c_X9_status (l : Launch) (D : va_G) (cI cZ cC cS : ClassId) (sq sz : Nat) (y : Nat) (y_lane : Nat) (y_many : Nat) (y_item : Nat) (y_city : Nat) (y_fresh : Nat) (y_tape : Nat) (y_cost : Nat) (y_away : Nat) (y_fee : Nat) (y_goesTo : Nat) (y_priceWas : Nat) (y_isKept : Nat) (y_kept : Nat) (y_trace : Nat) : mI l yX9_status wsX9_status 0 0 D (tyW cI cZ cC cS) sq [(y, .inr (9, [.int 0, .int 0, .ref y_lane, .ref y_many, .ref y_item, .ref y_city, .ref y_fresh, .int 0, .ref y_tape, .int 0, .int 0, .int 0, .int 0, .int 0, .int 0, .int 0, .int 0, .int 0, .int 0, .int 0, .ref y_cost, .ref y_away, .ref y_fee, .ref y_goesTo, .ref y_priceWas, .ref y_isKept, .ref y_kept, .ref y_trace, .int 0]))] sz [.ref y] (fun r w => r = 0 ∧ w = []) := by
  refine b_metI (cc := cX9_status) (maxL := 1) (ret := (some .int)) (by decide) rfl (Nat.le_of_ble_eq_true rfl) ?_
  intro p e s m below meth c ls A H X hsz hP hK hD hA hS hl
  have S : CallFix p m c cX9_status 1 s ([.ref y] : List Value).toArray wsX9_status RX9 := X.1
  have hl : lv_has ls 1 [(0, .ref y)] := hl
  have iX9 := jX9_status_X9
  refine lv_aload_n S.1 S.2.1 dX9_status_0 rfl (lv_at hl 0 rfl) ?_
  refine lv_iconst (v := 0) S.1 S.2.1 dX9_status_1 (by decide) ?_
  refine b_put (v := .int 0) S iX9 tyX9 tyX9_ok nmX9 hK hP hD hS 0 rfl rfl 0 (by decide) (by decide +kernel) rfl rfl rfl (Nat.le_of_ble_eq_true rfl) dX9_status_2 (fun H locs hP hD hS => ?_)
  have hP : va_P D vwCl [(y, .inr (9, [.int 0, .int 0, .ref y_lane, .ref y_many, .ref y_item, .ref y_city, .ref y_fresh, .int 0, .ref y_tape, .int 0, .int 0, .int 0, .int 0, .int 0, .int 0, .int 0, .int 0, .int 0, .int 0, .int 0, .ref y_cost, .ref y_away, .ref y_fee, .ref y_goesTo, .ref y_priceWas, .ref y_isKept, .ref y_kept, .ref y_trace, .int 0]))] H := hP
  have hD : va_D A [(y, .inr (9, [.int 0, .int 0, .ref y_lane, .ref y_many, .ref y_item, .ref y_city, .ref y_fresh, .int 0, .ref y_tape, .int 0, .int 0, .int 0, .int 0, .int 0, .int 0, .int 0, .int 0, .int 0, .int 0, .int 0, .ref y_cost, .ref y_away, .ref y_fee, .ref y_goesTo, .ref y_priceWas, .ref y_isKept, .ref y_kept, .ref y_trace, .int 0]))] := hD
  refine lv_aload_n S.1 S.2.1 dX9_status_5 rfl (lv_at hl 0 rfl) ?_
  refine b_get (v := .int 0) S iX9 hK hP 0 rfl rfl 1 (by decide) (by decide +kernel) rfl dX9_status_6 ?_
  have hP := hP.sub (ws' := []) [] rfl
  have hD := hD.sub (ws' := []) [] (by decide) rfl
  exact b_iret S.1 S.2.1 X.2.1 X.2.2.1 hP hD hS ⟨rfl, rfl⟩ dX9_status_9
set_option maxHeartbeats 4000000 in
set_option maxRecDepth 100000 in
theorem c_X9_price (l : Launch) (D : va_G) (cI cZ cC cS : ClassId) (sq sz : Nat) (y : Nat) (y_lane : Nat) (y_many : Nat) (y_item : Nat) (y_city : Nat) (y_fresh : Nat) (y_tape : Nat) (y_cost : Nat) (y_away : Nat) (y_fee : Nat) (y_goesTo : Nat) (y_priceWas : Nat) (y_isKept : Nat) (y_kept : Nat) (y_trace : Nat) (a : Int32) (b : Int32) : mI l yX9_price wsX9_price 0 0 D (tyW cI cZ cC cS) sq [(y, .inr (9, [.int 0, .int 0, .ref y_lane, .ref y_many, .ref y_item, .ref y_city, .ref y_fresh, .int 0, .ref y_tape, .int 0, .int 0, .int 0, .int 0, .int 0, .int 0, .int 0, .int 0, .int 0, .int 0, .int 0, .ref y_cost, .ref y_away, .ref y_fee, .ref y_goesTo, .ref y_priceWas, .ref y_isKept, .ref y_kept, .ref y_trace, .int 0]))] sz [.ref y, .int a, .int b] (fun r w => r = -1000002 ∧ w = []) := by
  refine b_metI (cc := cX9_price) (maxL := 4) (ret := (some .int)) (by decide) rfl (Nat.le_of_ble_eq_true rfl) ?_
  intro p e s m below meth c ls A H X hsz hP hK hD hA hS hl
  have S : CallFix p m c cX9_price 4 s ([.ref y, .int a, .int b] : List Value).toArray wsX9_price RX9 := X.1
  have hl : lv_has ls 4 [(0, .ref y), (1, .int a), (2, .int b)] := hl
  have iX9 := jX9_price_X9
  refine lv_aload_n S.1 S.2.1 dX9_price_0 rfl (lv_at hl 0 rfl) ?_
  refine lv_iconst (v := 0) S.1 S.2.1 dX9_price_1 (by decide) ?_
  refine b_put (v := .int 0) S iX9 tyX9 tyX9_ok nmX9 hK hP hD hS 0 rfl rfl 0 (by decide) (by decide +kernel) rfl rfl rfl (Nat.le_of_ble_eq_true rfl) dX9_price_2 (fun H locs hP hD hS => ?_)
  have hP : va_P D vwCl [(y, .inr (9, [.int 0, .int 0, .ref y_lane, .ref y_many, .ref y_item, .ref y_city, .ref y_fresh, .int 0, .ref y_tape, .int 0, .int 0, .int 0, .int 0, .int 0, .int 0, .int 0, .int 0, .int 0, .int 0, .int 0, .ref y_cost, .ref y_away, .ref y_fee, .ref y_goesTo, .ref y_priceWas, .ref y_isKept, .ref y_kept, .ref y_trace, .int 0]))] H := hP
  have hD : va_D A [(y, .inr (9, [.int 0, .int 0, .ref y_lane, .ref y_many, .ref y_item, .ref y_city, .ref y_fresh, .int 0, .ref y_tape, .int 0, .int 0, .int 0, .int 0, .int 0, .int 0, .int 0, .int 0, .int 0, .int 0, .int 0, .ref y_cost, .ref y_away, .ref y_fee, .ref y_goesTo, .ref y_priceWas, .ref y_isKept, .ref y_kept, .ref y_trace, .int 0]))] := hD
  refine lv_aload_n S.1 S.2.1 dX9_price_5 rfl (lv_at hl 0 rfl) ?_
  refine b_get (v := .int 0) S iX9 hK hP 0 rfl rfl 7 (by decide) (by decide +kernel) rfl dX9_price_6 ?_
  refine lv_if_ne (tgt := 15) S.1 S.2.1 dX9_price_9 (by decide) (fun c_1 => absurd c_1 (by decide)) (fun c_1 => ?_)
  refine lv_ldc (v := (-1000002)) S.1 S.2.1 S.2.2.2.1 (S.2.2.2.2 (.constant RX9 233 (-1000002)) (by decide +kernel)) dX9_price_12 ?_
  have hP := hP.sub (ws' := []) [] rfl
  have hD := hD.sub (ws' := []) [] (by decide) rfl
  exact b_iret S.1 S.2.1 X.2.1 X.2.2.1 hP hD hS ⟨rfl, rfl⟩ dX9_price_14
set_option maxHeartbeats 4000000 in
set_option maxRecDepth 100000 in
theorem c_X9_got (l : Launch) (D : va_G) (cI cZ cC cS : ClassId) (sq sz : Nat) (y : Nat) (y_lane : Nat) (y_many : Nat) (y_item : Nat) (y_city : Nat) (y_fresh : Nat) (y_tape : Nat) (y_cost : Nat) (y_away : Nat) (y_fee : Nat) (y_goesTo : Nat) (y_priceWas : Nat) (y_isKept : Nat) (y_kept : Nat) (y_trace : Nat) (a : Int32) : mI l yX9_got wsX9_got 0 0 D (tyW cI cZ cC cS) sq [(y, .inr (9, [.int 0, .int 0, .ref y_lane, .ref y_many, .ref y_item, .ref y_city, .ref y_fresh, .int 0, .ref y_tape, .int 0, .int 0, .int 0, .int 0, .int 0, .int 0, .int 0, .int 0, .int 0, .int 0, .int 0, .ref y_cost, .ref y_away, .ref y_fee, .ref y_goesTo, .ref y_priceWas, .ref y_isKept, .ref y_kept, .ref y_trace, .int 0]))] sz [.ref y, .int a] (fun r w => r = -1000002 ∧ w = []) := by
  refine b_metI (cc := cX9_got) (maxL := 4) (ret := (some .int)) (by decide) rfl (Nat.le_of_ble_eq_true rfl) ?_
  intro p e s m below meth c ls A H X hsz hP hK hD hA hS hl
  have S : CallFix p m c cX9_got 4 s ([.ref y, .int a] : List Value).toArray wsX9_got RX9 := X.1
  have hl : lv_has ls 4 [(0, .ref y), (1, .int a)] := hl
  have iX9 := jX9_got_X9
  refine lv_aload_n S.1 S.2.1 dX9_got_0 rfl (lv_at hl 0 rfl) ?_
  refine lv_iconst (v := 0) S.1 S.2.1 dX9_got_1 (by decide) ?_
  refine b_put (v := .int 0) S iX9 tyX9 tyX9_ok nmX9 hK hP hD hS 0 rfl rfl 0 (by decide) (by decide +kernel) rfl rfl rfl (Nat.le_of_ble_eq_true rfl) dX9_got_2 (fun H locs hP hD hS => ?_)
  have hP : va_P D vwCl [(y, .inr (9, [.int 0, .int 0, .ref y_lane, .ref y_many, .ref y_item, .ref y_city, .ref y_fresh, .int 0, .ref y_tape, .int 0, .int 0, .int 0, .int 0, .int 0, .int 0, .int 0, .int 0, .int 0, .int 0, .int 0, .ref y_cost, .ref y_away, .ref y_fee, .ref y_goesTo, .ref y_priceWas, .ref y_isKept, .ref y_kept, .ref y_trace, .int 0]))] H := hP
  have hD : va_D A [(y, .inr (9, [.int 0, .int 0, .ref y_lane, .ref y_many, .ref y_item, .ref y_city, .ref y_fresh, .int 0, .ref y_tape, .int 0, .int 0, .int 0, .int 0, .int 0, .int 0, .int 0, .int 0, .int 0, .int 0, .int 0, .ref y_cost, .ref y_away, .ref y_fee, .ref y_goesTo, .ref y_priceWas, .ref y_isKept, .ref y_kept, .ref y_trace, .int 0]))] := hD
  refine lv_aload_n S.1 S.2.1 dX9_got_5 rfl (lv_at hl 0 rfl) ?_
  refine b_get (v := .int 0) S iX9 hK hP 0 rfl rfl 7 (by decide) (by decide +kernel) rfl dX9_got_6 ?_
  refine lv_if_ne (tgt := 15) S.1 S.2.1 dX9_got_9 (by decide) (fun c_1 => absurd c_1 (by decide)) (fun c_1 => ?_)
  refine lv_ldc (v := (-1000002)) S.1 S.2.1 S.2.2.2.1 (S.2.2.2.2 (.constant RX9 233 (-1000002)) (by decide +kernel)) dX9_got_12 ?_
  have hP := hP.sub (ws' := []) [] rfl
  have hD := hD.sub (ws' := []) [] (by decide) rfl
  exact b_iret S.1 S.2.1 X.2.1 X.2.2.1 hP hD hS ⟨rfl, rfl⟩ dX9_got_14
set_option maxHeartbeats 4000000 in
set_option maxRecDepth 100000 in
theorem c_X9_witnesses (l : Launch) (D : va_G) (cI cZ cC cS : ClassId) (sq sz : Nat) (y : Nat) (y_lane : Nat) (y_many : Nat) (y_item : Nat) (y_city : Nat) (y_fresh : Nat) (y_tape : Nat) (y_cost : Nat) (y_away : Nat) (y_fee : Nat) (y_goesTo : Nat) (y_priceWas : Nat) (y_isKept : Nat) (y_kept : Nat) (y_trace : Nat) (a : Int32) : mI l yX9_witnesses wsX9_witnesses 0 0 D (tyW cI cZ cC cS) sq [(y, .inr (9, [.int 0, .int 0, .ref y_lane, .ref y_many, .ref y_item, .ref y_city, .ref y_fresh, .int 0, .ref y_tape, .int 0, .int 0, .int 0, .int 0, .int 0, .int 0, .int 0, .int 0, .int 0, .int 0, .int 0, .ref y_cost, .ref y_away, .ref y_fee, .ref y_goesTo, .ref y_priceWas, .ref y_isKept, .ref y_kept, .ref y_trace, .int 0]))] sz [.ref y, .int a] (fun r w => r = -1000002 ∧ w = []) := by
  refine b_metI (cc := cX9_witnesses) (maxL := 4) (ret := (some .int)) (by decide) rfl (Nat.le_of_ble_eq_true rfl) ?_
  intro p e s m below meth c ls A H X hsz hP hK hD hA hS hl
  have S : CallFix p m c cX9_witnesses 4 s ([.ref y, .int a] : List Value).toArray wsX9_witnesses RX9 := X.1
  have hl : lv_has ls 4 [(0, .ref y), (1, .int a)] := hl
  have iX9 := jX9_witnesses_X9
  refine lv_aload_n S.1 S.2.1 dX9_witnesses_0 rfl (lv_at hl 0 rfl) ?_
  refine lv_iconst (v := 0) S.1 S.2.1 dX9_witnesses_1 (by decide) ?_
  refine b_put (v := .int 0) S iX9 tyX9 tyX9_ok nmX9 hK hP hD hS 0 rfl rfl 0 (by decide) (by decide +kernel) rfl rfl rfl (Nat.le_of_ble_eq_true rfl) dX9_witnesses_2 (fun H locs hP hD hS => ?_)
  have hP : va_P D vwCl [(y, .inr (9, [.int 0, .int 0, .ref y_lane, .ref y_many, .ref y_item, .ref y_city, .ref y_fresh, .int 0, .ref y_tape, .int 0, .int 0, .int 0, .int 0, .int 0, .int 0, .int 0, .int 0, .int 0, .int 0, .int 0, .ref y_cost, .ref y_away, .ref y_fee, .ref y_goesTo, .ref y_priceWas, .ref y_isKept, .ref y_kept, .ref y_trace, .int 0]))] H := hP
  have hD : va_D A [(y, .inr (9, [.int 0, .int 0, .ref y_lane, .ref y_many, .ref y_item, .ref y_city, .ref y_fresh, .int 0, .ref y_tape, .int 0, .int 0, .int 0, .int 0, .int 0, .int 0, .int 0, .int 0, .int 0, .int 0, .int 0, .ref y_cost, .ref y_away, .ref y_fee, .ref y_goesTo, .ref y_priceWas, .ref y_isKept, .ref y_kept, .ref y_trace, .int 0]))] := hD
  refine lv_aload_n S.1 S.2.1 dX9_witnesses_5 rfl (lv_at hl 0 rfl) ?_
  refine b_get (v := .int 0) S iX9 hK hP 0 rfl rfl 7 (by decide) (by decide +kernel) rfl dX9_witnesses_6 ?_
  refine lv_if_ne (tgt := 15) S.1 S.2.1 dX9_witnesses_9 (by decide) (fun c_1 => absurd c_1 (by decide)) (fun c_1 => ?_)
  refine lv_ldc (v := (-1000002)) S.1 S.2.1 S.2.2.2.1 (S.2.2.2.2 (.constant RX9 233 (-1000002)) (by decide +kernel)) dX9_witnesses_12 ?_
  have hP := hP.sub (ws' := []) [] rfl
  have hD := hD.sub (ws' := []) [] (by decide) rfl
  exact b_iret S.1 S.2.1 X.2.1 X.2.2.1 hP hD hS ⟨rfl, rfl⟩ dX9_witnesses_14
set_option maxHeartbeats 4000000 in
set_option maxRecDepth 100000 in
theorem c_X9_beauty (l : Launch) (D : va_G) (cI cZ cC cS : ClassId) (sq sz : Nat) (y : Nat) (y_lane : Nat) (y_many : Nat) (y_item : Nat) (y_city : Nat) (y_fresh : Nat) (y_tape : Nat) (y_cost : Nat) (y_away : Nat) (y_fee : Nat) (y_goesTo : Nat) (y_priceWas : Nat) (y_isKept : Nat) (y_kept : Nat) (y_trace : Nat) (a : Int32) : mI l yX9_beauty wsX9_beauty 0 0 D (tyW cI cZ cC cS) sq [(y, .inr (9, [.int 0, .int 0, .ref y_lane, .ref y_many, .ref y_item, .ref y_city, .ref y_fresh, .int 0, .ref y_tape, .int 0, .int 0, .int 0, .int 0, .int 0, .int 0, .int 0, .int 0, .int 0, .int 0, .int 0, .ref y_cost, .ref y_away, .ref y_fee, .ref y_goesTo, .ref y_priceWas, .ref y_isKept, .ref y_kept, .ref y_trace, .int 0]))] sz [.ref y, .int a] (fun r w => r = -1000002 ∧ w = []) := by
  refine b_metI (cc := cX9_beauty) (maxL := 4) (ret := (some .int)) (by decide) rfl (Nat.le_of_ble_eq_true rfl) ?_
  intro p e s m below meth c ls A H X hsz hP hK hD hA hS hl
  have S : CallFix p m c cX9_beauty 4 s ([.ref y, .int a] : List Value).toArray wsX9_beauty RX9 := X.1
  have hl : lv_has ls 4 [(0, .ref y), (1, .int a)] := hl
  have iX9 := jX9_beauty_X9
  refine lv_aload_n S.1 S.2.1 dX9_beauty_0 rfl (lv_at hl 0 rfl) ?_
  refine lv_iconst (v := 0) S.1 S.2.1 dX9_beauty_1 (by decide) ?_
  refine b_put (v := .int 0) S iX9 tyX9 tyX9_ok nmX9 hK hP hD hS 0 rfl rfl 0 (by decide) (by decide +kernel) rfl rfl rfl (Nat.le_of_ble_eq_true rfl) dX9_beauty_2 (fun H locs hP hD hS => ?_)
  have hP : va_P D vwCl [(y, .inr (9, [.int 0, .int 0, .ref y_lane, .ref y_many, .ref y_item, .ref y_city, .ref y_fresh, .int 0, .ref y_tape, .int 0, .int 0, .int 0, .int 0, .int 0, .int 0, .int 0, .int 0, .int 0, .int 0, .int 0, .ref y_cost, .ref y_away, .ref y_fee, .ref y_goesTo, .ref y_priceWas, .ref y_isKept, .ref y_kept, .ref y_trace, .int 0]))] H := hP
  have hD : va_D A [(y, .inr (9, [.int 0, .int 0, .ref y_lane, .ref y_many, .ref y_item, .ref y_city, .ref y_fresh, .int 0, .ref y_tape, .int 0, .int 0, .int 0, .int 0, .int 0, .int 0, .int 0, .int 0, .int 0, .int 0, .int 0, .ref y_cost, .ref y_away, .ref y_fee, .ref y_goesTo, .ref y_priceWas, .ref y_isKept, .ref y_kept, .ref y_trace, .int 0]))] := hD
  refine lv_aload_n S.1 S.2.1 dX9_beauty_5 rfl (lv_at hl 0 rfl) ?_
  refine b_get (v := .int 0) S iX9 hK hP 0 rfl rfl 7 (by decide) (by decide +kernel) rfl dX9_beauty_6 ?_
  refine lv_if_ne (tgt := 15) S.1 S.2.1 dX9_beauty_9 (by decide) (fun c_1 => absurd c_1 (by decide)) (fun c_1 => ?_)
  refine lv_ldc (v := (-1000002)) S.1 S.2.1 S.2.2.2.1 (S.2.2.2.2 (.constant RX9 233 (-1000002)) (by decide +kernel)) dX9_beauty_12 ?_
  have hP := hP.sub (ws' := []) [] rfl
  have hD := hD.sub (ws' := []) [] (by decide) rfl
  exact b_iret S.1 S.2.1 X.2.1 X.2.2.1 hP hD hS ⟨rfl, rfl⟩ dX9_beauty_14
set_option maxHeartbeats 4000000 in
set_option maxRecDepth 100000 in
theorem c_X9_earns (l : Launch) (D : va_G) (cI cZ cC cS : ClassId) (sq sz : Nat) (y : Nat) (y_lane : Nat) (y_many : Nat) (y_item : Nat) (y_city : Nat) (y_fresh : Nat) (y_tape : Nat) (y_cost : Nat) (y_away : Nat) (y_fee : Nat) (y_goesTo : Nat) (y_priceWas : Nat) (y_isKept : Nat) (y_kept : Nat) (y_trace : Nat) (a : Int32) (b : Int32) : mI l yX9_earns wsX9_earns 0 0 D (tyW cI cZ cC cS) sq [(y, .inr (9, [.int 0, .int 0, .ref y_lane, .ref y_many, .ref y_item, .ref y_city, .ref y_fresh, .int 0, .ref y_tape, .int 0, .int 0, .int 0, .int 0, .int 0, .int 0, .int 0, .int 0, .int 0, .int 0, .int 0, .ref y_cost, .ref y_away, .ref y_fee, .ref y_goesTo, .ref y_priceWas, .ref y_isKept, .ref y_kept, .ref y_trace, .int 0]))] sz [.ref y, .int a, .int b] (fun r w => r = -1000002 ∧ w = []) := by
  refine b_metI (cc := cX9_earns) (maxL := 3) (ret := (some .int)) (by decide) rfl (Nat.le_of_ble_eq_true rfl) ?_
  intro p e s m below meth c ls A H X hsz hP hK hD hA hS hl
  have S : CallFix p m c cX9_earns 3 s ([.ref y, .int a, .int b] : List Value).toArray wsX9_earns RX9 := X.1
  have hl : lv_has ls 3 [(0, .ref y), (1, .int a), (2, .int b)] := hl
  have iX9 := jX9_earns_X9
  refine lv_aload_n S.1 S.2.1 dX9_earns_0 rfl (lv_at hl 0 rfl) ?_
  refine lv_iconst (v := 0) S.1 S.2.1 dX9_earns_1 (by decide) ?_
  refine b_put (v := .int 0) S iX9 tyX9 tyX9_ok nmX9 hK hP hD hS 0 rfl rfl 0 (by decide) (by decide +kernel) rfl rfl rfl (Nat.le_of_ble_eq_true rfl) dX9_earns_2 (fun H locs hP hD hS => ?_)
  have hP : va_P D vwCl [(y, .inr (9, [.int 0, .int 0, .ref y_lane, .ref y_many, .ref y_item, .ref y_city, .ref y_fresh, .int 0, .ref y_tape, .int 0, .int 0, .int 0, .int 0, .int 0, .int 0, .int 0, .int 0, .int 0, .int 0, .int 0, .ref y_cost, .ref y_away, .ref y_fee, .ref y_goesTo, .ref y_priceWas, .ref y_isKept, .ref y_kept, .ref y_trace, .int 0]))] H := hP
  have hD : va_D A [(y, .inr (9, [.int 0, .int 0, .ref y_lane, .ref y_many, .ref y_item, .ref y_city, .ref y_fresh, .int 0, .ref y_tape, .int 0, .int 0, .int 0, .int 0, .int 0, .int 0, .int 0, .int 0, .int 0, .int 0, .int 0, .ref y_cost, .ref y_away, .ref y_fee, .ref y_goesTo, .ref y_priceWas, .ref y_isKept, .ref y_kept, .ref y_trace, .int 0]))] := hD
  refine lv_aload_n S.1 S.2.1 dX9_earns_5 rfl (lv_at hl 0 rfl) ?_
  refine b_get (v := .int 0) S iX9 hK hP 0 rfl rfl 7 (by decide) (by decide +kernel) rfl dX9_earns_6 ?_
  refine lv_if_ne (tgt := 15) S.1 S.2.1 dX9_earns_9 (by decide) (fun c_1 => absurd c_1 (by decide)) (fun c_1 => ?_)
  refine lv_ldc (v := (-1000002)) S.1 S.2.1 S.2.2.2.1 (S.2.2.2.2 (.constant RX9 233 (-1000002)) (by decide +kernel)) dX9_earns_12 ?_
  have hP := hP.sub (ws' := []) [] rfl
  have hD := hD.sub (ws' := []) [] (by decide) rfl
  exact b_iret S.1 S.2.1 X.2.1 X.2.2.1 hP hD hS ⟨rfl, rfl⟩ dX9_earns_14
set_option maxHeartbeats 4000000 in
set_option maxRecDepth 100000 in
theorem c_X9_rivals (l : Launch) (D : va_G) (cI cZ cC cS : ClassId) (sq sz : Nat) (y : Nat) (y_lane : Nat) (y_many : Nat) (y_item : Nat) (y_city : Nat) (y_fresh : Nat) (y_tape : Nat) (y_cost : Nat) (y_away : Nat) (y_fee : Nat) (y_goesTo : Nat) (y_priceWas : Nat) (y_isKept : Nat) (y_kept : Nat) (y_trace : Nat) (a : Int32) : mI l yX9_rivals wsX9_rivals 0 0 D (tyW cI cZ cC cS) sq [(y, .inr (9, [.int 0, .int 0, .ref y_lane, .ref y_many, .ref y_item, .ref y_city, .ref y_fresh, .int 0, .ref y_tape, .int 0, .int 0, .int 0, .int 0, .int 0, .int 0, .int 0, .int 0, .int 0, .int 0, .int 0, .ref y_cost, .ref y_away, .ref y_fee, .ref y_goesTo, .ref y_priceWas, .ref y_isKept, .ref y_kept, .ref y_trace, .int 0]))] sz [.ref y, .int a] (fun r w => r = -1000002 ∧ w = []) := by
  refine b_metI (cc := cX9_rivals) (maxL := 5) (ret := (some .int)) (by decide) rfl (Nat.le_of_ble_eq_true rfl) ?_
  intro p e s m below meth c ls A H X hsz hP hK hD hA hS hl
  have S : CallFix p m c cX9_rivals 5 s ([.ref y, .int a] : List Value).toArray wsX9_rivals RX9 := X.1
  have hl : lv_has ls 5 [(0, .ref y), (1, .int a)] := hl
  have iX9 := jX9_rivals_X9
  refine lv_aload_n S.1 S.2.1 dX9_rivals_0 rfl (lv_at hl 0 rfl) ?_
  refine lv_iconst (v := 0) S.1 S.2.1 dX9_rivals_1 (by decide) ?_
  refine b_put (v := .int 0) S iX9 tyX9 tyX9_ok nmX9 hK hP hD hS 0 rfl rfl 0 (by decide) (by decide +kernel) rfl rfl rfl (Nat.le_of_ble_eq_true rfl) dX9_rivals_2 (fun H locs hP hD hS => ?_)
  have hP : va_P D vwCl [(y, .inr (9, [.int 0, .int 0, .ref y_lane, .ref y_many, .ref y_item, .ref y_city, .ref y_fresh, .int 0, .ref y_tape, .int 0, .int 0, .int 0, .int 0, .int 0, .int 0, .int 0, .int 0, .int 0, .int 0, .int 0, .ref y_cost, .ref y_away, .ref y_fee, .ref y_goesTo, .ref y_priceWas, .ref y_isKept, .ref y_kept, .ref y_trace, .int 0]))] H := hP
  have hD : va_D A [(y, .inr (9, [.int 0, .int 0, .ref y_lane, .ref y_many, .ref y_item, .ref y_city, .ref y_fresh, .int 0, .ref y_tape, .int 0, .int 0, .int 0, .int 0, .int 0, .int 0, .int 0, .int 0, .int 0, .int 0, .int 0, .ref y_cost, .ref y_away, .ref y_fee, .ref y_goesTo, .ref y_priceWas, .ref y_isKept, .ref y_kept, .ref y_trace, .int 0]))] := hD
  refine lv_aload_n S.1 S.2.1 dX9_rivals_5 rfl (lv_at hl 0 rfl) ?_
  refine b_get (v := .int 0) S iX9 hK hP 0 rfl rfl 7 (by decide) (by decide +kernel) rfl dX9_rivals_6 ?_
  refine lv_if_ne (tgt := 15) S.1 S.2.1 dX9_rivals_9 (by decide) (fun c_1 => absurd c_1 (by decide)) (fun c_1 => ?_)
  refine lv_ldc (v := (-1000002)) S.1 S.2.1 S.2.2.2.1 (S.2.2.2.2 (.constant RX9 233 (-1000002)) (by decide +kernel)) dX9_rivals_12 ?_
  have hP := hP.sub (ws' := []) [] rfl
  have hD := hD.sub (ws' := []) [] (by decide) rfl
  exact b_iret S.1 S.2.1 X.2.1 X.2.2.1 hP hD hS ⟨rfl, rfl⟩ dX9_rivals_14
set_option maxHeartbeats 4000000 in
set_option maxRecDepth 100000 in
theorem c_X9_step (l : Launch) (D : va_G) (cI cZ cC cS : ClassId) (sq sz : Nat) (y : Nat) (y_lane : Nat) (y_many : Nat) (y_item : Nat) (y_city : Nat) (y_fresh : Nat) (y_tape : Nat) (y_cost : Nat) (y_away : Nat) (y_fee : Nat) (y_goesTo : Nat) (y_priceWas : Nat) (y_isKept : Nat) (y_kept : Nat) (y_trace : Nat) (a : Int32) (b : Int32) : mI l yX9_step wsX9_step 2 46 D (tyW cI cZ cC cS) sq [(y, .inr (9, [.int 0, .int 0, .ref y_lane, .ref y_many, .ref y_item, .ref y_city, .ref y_fresh, .int 0, .ref y_tape, .int 0, .int 0, .int 0, .int 0, .int 0, .int 0, .int 0, .int 0, .int 0, .int 0, .int 0, .ref y_cost, .ref y_away, .ref y_fee, .ref y_goesTo, .ref y_priceWas, .ref y_isKept, .ref y_kept, .ref y_trace, .int 0])), (y_city, .inl (cI, 192, .inl (fun _ => 0)))] sz [.ref y, .int a, .int b] (fun r w => r = -1000001 ∧ w = []) := by
  refine b_metI (cc := cX9_step) (maxL := 3) (ret := (some .int)) (by decide) rfl (Nat.le_of_ble_eq_true rfl) ?_
  intro p e s m below meth c ls A H X hsz hP hK hD hA hS hl
  have S : CallFix p m c cX9_step 3 s ([.ref y, .int a, .int b] : List Value).toArray wsX9_step RX9 := X.1
  have hl : lv_has ls 3 [(0, .ref y), (1, .int a), (2, .int b)] := hl
  have iX9 := jX9_step_X9
  refine lv_aload_n S.1 S.2.1 dX9_step_0 rfl (lv_at hl 0 rfl) ?_
  refine lv_iconst (v := 0) S.1 S.2.1 dX9_step_1 (by decide) ?_
  refine b_put (v := .int 0) S iX9 tyX9 tyX9_ok nmX9 hK hP hD hS 0 rfl rfl 0 (by decide) (by decide +kernel) rfl rfl rfl (Nat.le_of_ble_eq_true rfl) dX9_step_2 (fun H locs hP hD hS => ?_)
  have hP : va_P D vwCl [(y, .inr (9, [.int 0, .int 0, .ref y_lane, .ref y_many, .ref y_item, .ref y_city, .ref y_fresh, .int 0, .ref y_tape, .int 0, .int 0, .int 0, .int 0, .int 0, .int 0, .int 0, .int 0, .int 0, .int 0, .int 0, .ref y_cost, .ref y_away, .ref y_fee, .ref y_goesTo, .ref y_priceWas, .ref y_isKept, .ref y_kept, .ref y_trace, .int 0])), (y_city, .inl (cI, 192, .inl (fun _ => 0)))] H := hP
  have hD : va_D A [(y, .inr (9, [.int 0, .int 0, .ref y_lane, .ref y_many, .ref y_item, .ref y_city, .ref y_fresh, .int 0, .ref y_tape, .int 0, .int 0, .int 0, .int 0, .int 0, .int 0, .int 0, .int 0, .int 0, .int 0, .int 0, .ref y_cost, .ref y_away, .ref y_fee, .ref y_goesTo, .ref y_priceWas, .ref y_isKept, .ref y_kept, .ref y_trace, .int 0])), (y_city, .inl (cI, 192, .inl (fun _ => 0)))] := hD
  refine lv_aload_n S.1 S.2.1 dX9_step_5 rfl (lv_at hl 0 rfl) ?_
  refine lv_iload_n S.1 S.2.1 dX9_step_6 rfl (lv_at hl 1 rfl) ?_
  refine b_ai (wr := []) (b_runV (q0 := 0) (ci := 9) (As := [.int a]) (c_X9_isOne l D cI cZ cC cS sq H.size y y_lane y_many y_item y_city y_fresh y_tape y_cost y_away y_fee y_goesTo y_priceWas y_isKept y_kept y_trace a) S gX9_step_X9_isOne rfl hdV_X9_isOne ⟨Nat.le_of_ble_eq_true rfl, Nat.le_of_ble_eq_true rfl⟩ ⟨Nat.le_of_ble_eq_true rfl, Nat.le_of_ble_eq_true rfl⟩ hK hP hD rfl rfl [0, 1] rfl (by decide) rfl hl.1 rfl (Nat.le_of_ble_eq_true rfl) dX9_step_7) hP hD hS hA [0, 1] [] rfl rfl (by decide) (by decide) (fun r_1 w_2 H locs hw_3 hP hD hS => ?_)
  obtain ⟨rfl, rfl⟩ := hw_3
  have hP : va_P D vwCl [(y, .inr (9, [.int 0, .int 0, .ref y_lane, .ref y_many, .ref y_item, .ref y_city, .ref y_fresh, .int 0, .ref y_tape, .int 0, .int 0, .int 0, .int 0, .int 0, .int 0, .int 0, .int 0, .int 0, .int 0, .int 0, .ref y_cost, .ref y_away, .ref y_fee, .ref y_goesTo, .ref y_priceWas, .ref y_isKept, .ref y_kept, .ref y_trace, .int 0])), (y_city, .inl (cI, 192, .inl (fun _ => 0)))] H := hP
  have hD : va_D A [(y, .inr (9, [.int 0, .int 0, .ref y_lane, .ref y_many, .ref y_item, .ref y_city, .ref y_fresh, .int 0, .ref y_tape, .int 0, .int 0, .int 0, .int 0, .int 0, .int 0, .int 0, .int 0, .int 0, .int 0, .int 0, .ref y_cost, .ref y_away, .ref y_fee, .ref y_goesTo, .ref y_priceWas, .ref y_isKept, .ref y_kept, .ref y_trace, .int 0])), (y_city, .inl (cI, 192, .inl (fun _ => 0)))] := hD
  refine lv_if_eq (tgt := 31) S.1 S.2.1 dX9_step_10 (by decide) (fun c_4 => ?_) (fun c_4 => absurd c_4 (by decide))
  refine lv_ldc (v := (-1000001)) S.1 S.2.1 S.2.2.2.1 (S.2.2.2.2 (.constant RX9 73 (-1000001)) (by decide +kernel)) dX9_step_31 ?_
  have hP := hP.sub (ws' := []) [] rfl
  have hD := hD.sub (ws' := []) [] (by decide) rfl
  exact b_iret S.1 S.2.1 X.2.1 X.2.2.1 hP hD hS ⟨rfl, rfl⟩ dX9_step_33
set_option maxHeartbeats 4000000 in
set_option maxRecDepth 100000 in
theorem c_X9_walk (l : Launch) (D : va_G) (cI cZ cC cS : ClassId) (sq sz : Nat) (y : Nat) (y_lane : Nat) (y_many : Nat) (y_item : Nat) (y_city : Nat) (y_fresh : Nat) (y_tape : Nat) (y_cost : Nat) (y_away : Nat) (y_fee : Nat) (y_goesTo : Nat) (y_priceWas : Nat) (y_isKept : Nat) (y_kept : Nat) (y_trace : Nat) (a : Int32) (b : Int32) (k : Int32) (n : Int32) : mI l yX9_walk wsX9_walk 2 46 D (tyW cI cZ cC cS) sq [(y, .inr (9, [.int 0, .int 0, .ref y_lane, .ref y_many, .ref y_item, .ref y_city, .ref y_fresh, .int 0, .ref y_tape, .int 0, .int 0, .int 0, .int 0, .int 0, .int 0, .int 0, .int 0, .int 0, .int 0, .int 0, .ref y_cost, .ref y_away, .ref y_fee, .ref y_goesTo, .ref y_priceWas, .ref y_isKept, .ref y_kept, .ref y_trace, .int 0])), (y_city, .inl (cI, 192, .inl (fun _ => 0)))] sz [.ref y, .int a, .int b, .int k, .int n] (fun r w => r = -1000001 ∧ w = []) := by
  refine b_metI (cc := cX9_walk) (maxL := 7) (ret := (some .int)) (by decide) rfl (Nat.le_of_ble_eq_true rfl) ?_
  intro p e s m below meth c ls A H X hsz hP hK hD hA hS hl
  have S : CallFix p m c cX9_walk 7 s ([.ref y, .int a, .int b, .int k, .int n] : List Value).toArray wsX9_walk RX9 := X.1
  have hl : lv_has ls 7 [(0, .ref y), (1, .int a), (2, .int b), (3, .int k), (4, .int n)] := hl
  have iX9 := jX9_walk_X9
  refine lv_aload_n S.1 S.2.1 dX9_walk_0 rfl (lv_at hl 0 rfl) ?_
  refine lv_iconst (v := 0) S.1 S.2.1 dX9_walk_1 (by decide) ?_
  refine b_put (v := .int 0) S iX9 tyX9 tyX9_ok nmX9 hK hP hD hS 0 rfl rfl 0 (by decide) (by decide +kernel) rfl rfl rfl (Nat.le_of_ble_eq_true rfl) dX9_walk_2 (fun H locs hP hD hS => ?_)
  have hP : va_P D vwCl [(y, .inr (9, [.int 0, .int 0, .ref y_lane, .ref y_many, .ref y_item, .ref y_city, .ref y_fresh, .int 0, .ref y_tape, .int 0, .int 0, .int 0, .int 0, .int 0, .int 0, .int 0, .int 0, .int 0, .int 0, .int 0, .ref y_cost, .ref y_away, .ref y_fee, .ref y_goesTo, .ref y_priceWas, .ref y_isKept, .ref y_kept, .ref y_trace, .int 0])), (y_city, .inl (cI, 192, .inl (fun _ => 0)))] H := hP
  have hD : va_D A [(y, .inr (9, [.int 0, .int 0, .ref y_lane, .ref y_many, .ref y_item, .ref y_city, .ref y_fresh, .int 0, .ref y_tape, .int 0, .int 0, .int 0, .int 0, .int 0, .int 0, .int 0, .int 0, .int 0, .int 0, .int 0, .ref y_cost, .ref y_away, .ref y_fee, .ref y_goesTo, .ref y_priceWas, .ref y_isKept, .ref y_kept, .ref y_trace, .int 0])), (y_city, .inl (cI, 192, .inl (fun _ => 0)))] := hD
  refine lv_aload_n S.1 S.2.1 dX9_walk_5 rfl (lv_at hl 0 rfl) ?_
  refine lv_iload_n S.1 S.2.1 dX9_walk_6 rfl (lv_at hl 1 rfl) ?_
  refine b_ai (wr := []) (b_runV (q0 := 0) (ci := 9) (As := [.int a]) (c_X9_isOne l D cI cZ cC cS sq H.size y y_lane y_many y_item y_city y_fresh y_tape y_cost y_away y_fee y_goesTo y_priceWas y_isKept y_kept y_trace a) S gX9_walk_X9_isOne rfl hdV_X9_isOne ⟨Nat.le_of_ble_eq_true rfl, Nat.le_of_ble_eq_true rfl⟩ ⟨Nat.le_of_ble_eq_true rfl, Nat.le_of_ble_eq_true rfl⟩ hK hP hD rfl rfl [0, 1] rfl (by decide) rfl hl.1 rfl (Nat.le_of_ble_eq_true rfl) dX9_walk_7) hP hD hS hA [0, 1] [] rfl rfl (by decide) (by decide) (fun r_1 w_2 H locs hw_3 hP hD hS => ?_)
  obtain ⟨rfl, rfl⟩ := hw_3
  have hP : va_P D vwCl [(y, .inr (9, [.int 0, .int 0, .ref y_lane, .ref y_many, .ref y_item, .ref y_city, .ref y_fresh, .int 0, .ref y_tape, .int 0, .int 0, .int 0, .int 0, .int 0, .int 0, .int 0, .int 0, .int 0, .int 0, .int 0, .ref y_cost, .ref y_away, .ref y_fee, .ref y_goesTo, .ref y_priceWas, .ref y_isKept, .ref y_kept, .ref y_trace, .int 0])), (y_city, .inl (cI, 192, .inl (fun _ => 0)))] H := hP
  have hD : va_D A [(y, .inr (9, [.int 0, .int 0, .ref y_lane, .ref y_many, .ref y_item, .ref y_city, .ref y_fresh, .int 0, .ref y_tape, .int 0, .int 0, .int 0, .int 0, .int 0, .int 0, .int 0, .int 0, .int 0, .int 0, .int 0, .ref y_cost, .ref y_away, .ref y_fee, .ref y_goesTo, .ref y_priceWas, .ref y_isKept, .ref y_kept, .ref y_trace, .int 0])), (y_city, .inl (cI, 192, .inl (fun _ => 0)))] := hD
  refine lv_if_eq (tgt := 33) S.1 S.2.1 dX9_walk_10 (by decide) (fun c_4 => ?_) (fun c_4 => absurd c_4 (by decide))
  refine lv_ldc (v := (-1000001)) S.1 S.2.1 S.2.2.2.1 (S.2.2.2.2 (.constant RX9 73 (-1000001)) (by decide +kernel)) dX9_walk_33 ?_
  have hP := hP.sub (ws' := []) [] rfl
  have hD := hD.sub (ws' := []) [] (by decide) rfl
  exact b_iret S.1 S.2.1 X.2.1 X.2.2.1 hP hD hS ⟨rfl, rfl⟩ dX9_walk_35
set_option maxHeartbeats 4000000 in
set_option maxRecDepth 100000 in
theorem c_X9_person (l : Launch) (D : va_G) (cI cZ cC cS : ClassId) (sq sz : Nat) (y : Nat) (y_lane : Nat) (y_many : Nat) (y_item : Nat) (y_city : Nat) (y_fresh : Nat) (y_tape : Nat) (y_cost : Nat) (y_away : Nat) (y_fee : Nat) (y_goesTo : Nat) (y_priceWas : Nat) (y_isKept : Nat) (y_kept : Nat) (y_trace : Nat) (a : Int32) (b : Int32) : mI l yX9_person wsX9_person 2 46 D (tyW cI cZ cC cS) sq [(y, .inr (9, [.int 0, .int 0, .ref y_lane, .ref y_many, .ref y_item, .ref y_city, .ref y_fresh, .int 0, .ref y_tape, .int 0, .int 0, .int 0, .int 0, .int 0, .int 0, .int 0, .int 0, .int 0, .int 0, .int 0, .ref y_cost, .ref y_away, .ref y_fee, .ref y_goesTo, .ref y_priceWas, .ref y_isKept, .ref y_kept, .ref y_trace, .int 0])), (y_city, .inl (cI, 192, .inl (fun _ => 0)))] sz [.ref y, .int a, .int b] (fun r w => r = -1000001 ∧ w = []) := by
  refine b_metI (cc := cX9_person) (maxL := 5) (ret := (some .int)) (by decide) rfl (Nat.le_of_ble_eq_true rfl) ?_
  intro p e s m below meth c ls A H X hsz hP hK hD hA hS hl
  have S : CallFix p m c cX9_person 5 s ([.ref y, .int a, .int b] : List Value).toArray wsX9_person RX9 := X.1
  have hl : lv_has ls 5 [(0, .ref y), (1, .int a), (2, .int b)] := hl
  have iX9 := jX9_person_X9
  refine lv_aload_n S.1 S.2.1 dX9_person_0 rfl (lv_at hl 0 rfl) ?_
  refine lv_iconst (v := 0) S.1 S.2.1 dX9_person_1 (by decide) ?_
  refine b_put (v := .int 0) S iX9 tyX9 tyX9_ok nmX9 hK hP hD hS 0 rfl rfl 0 (by decide) (by decide +kernel) rfl rfl rfl (Nat.le_of_ble_eq_true rfl) dX9_person_2 (fun H locs hP hD hS => ?_)
  have hP : va_P D vwCl [(y, .inr (9, [.int 0, .int 0, .ref y_lane, .ref y_many, .ref y_item, .ref y_city, .ref y_fresh, .int 0, .ref y_tape, .int 0, .int 0, .int 0, .int 0, .int 0, .int 0, .int 0, .int 0, .int 0, .int 0, .int 0, .ref y_cost, .ref y_away, .ref y_fee, .ref y_goesTo, .ref y_priceWas, .ref y_isKept, .ref y_kept, .ref y_trace, .int 0])), (y_city, .inl (cI, 192, .inl (fun _ => 0)))] H := hP
  have hD : va_D A [(y, .inr (9, [.int 0, .int 0, .ref y_lane, .ref y_many, .ref y_item, .ref y_city, .ref y_fresh, .int 0, .ref y_tape, .int 0, .int 0, .int 0, .int 0, .int 0, .int 0, .int 0, .int 0, .int 0, .int 0, .int 0, .ref y_cost, .ref y_away, .ref y_fee, .ref y_goesTo, .ref y_priceWas, .ref y_isKept, .ref y_kept, .ref y_trace, .int 0])), (y_city, .inl (cI, 192, .inl (fun _ => 0)))] := hD
  refine lv_aload_n S.1 S.2.1 dX9_person_5 rfl (lv_at hl 0 rfl) ?_
  refine lv_iload_n S.1 S.2.1 dX9_person_6 rfl (lv_at hl 1 rfl) ?_
  refine b_ai (wr := []) (b_runV (q0 := 0) (ci := 9) (As := [.int a]) (c_X9_isOne l D cI cZ cC cS sq H.size y y_lane y_many y_item y_city y_fresh y_tape y_cost y_away y_fee y_goesTo y_priceWas y_isKept y_kept y_trace a) S gX9_person_X9_isOne rfl hdV_X9_isOne ⟨Nat.le_of_ble_eq_true rfl, Nat.le_of_ble_eq_true rfl⟩ ⟨Nat.le_of_ble_eq_true rfl, Nat.le_of_ble_eq_true rfl⟩ hK hP hD rfl rfl [0, 1] rfl (by decide) rfl hl.1 rfl (Nat.le_of_ble_eq_true rfl) dX9_person_7) hP hD hS hA [0, 1] [] rfl rfl (by decide) (by decide) (fun r_1 w_2 H locs hw_3 hP hD hS => ?_)
  obtain ⟨rfl, rfl⟩ := hw_3
  have hP : va_P D vwCl [(y, .inr (9, [.int 0, .int 0, .ref y_lane, .ref y_many, .ref y_item, .ref y_city, .ref y_fresh, .int 0, .ref y_tape, .int 0, .int 0, .int 0, .int 0, .int 0, .int 0, .int 0, .int 0, .int 0, .int 0, .int 0, .ref y_cost, .ref y_away, .ref y_fee, .ref y_goesTo, .ref y_priceWas, .ref y_isKept, .ref y_kept, .ref y_trace, .int 0])), (y_city, .inl (cI, 192, .inl (fun _ => 0)))] H := hP
  have hD : va_D A [(y, .inr (9, [.int 0, .int 0, .ref y_lane, .ref y_many, .ref y_item, .ref y_city, .ref y_fresh, .int 0, .ref y_tape, .int 0, .int 0, .int 0, .int 0, .int 0, .int 0, .int 0, .int 0, .int 0, .int 0, .int 0, .ref y_cost, .ref y_away, .ref y_fee, .ref y_goesTo, .ref y_priceWas, .ref y_isKept, .ref y_kept, .ref y_trace, .int 0])), (y_city, .inl (cI, 192, .inl (fun _ => 0)))] := hD
  refine lv_if_ne (tgt := 16) S.1 S.2.1 dX9_person_10 (by decide) (fun c_4 => absurd c_4 (by decide)) (fun c_4 => ?_)
  refine lv_ldc (v := (-1000001)) S.1 S.2.1 S.2.2.2.1 (S.2.2.2.2 (.constant RX9 73 (-1000001)) (by decide +kernel)) dX9_person_13 ?_
  have hP := hP.sub (ws' := []) [] rfl
  have hD := hD.sub (ws' := []) [] (by decide) rfl
  exact b_iret S.1 S.2.1 X.2.1 X.2.2.1 hP hD hS ⟨rfl, rfl⟩ dX9_person_15
set_option maxHeartbeats 4000000 in
set_option maxRecDepth 100000 in
theorem c_X9_home (l : Launch) (D : va_G) (cI cZ cC cS : ClassId) (sq sz : Nat) (y : Nat) (y_lane : Nat) (y_many : Nat) (y_item : Nat) (y_city : Nat) (y_fresh : Nat) (y_tape : Nat) (y_cost : Nat) (y_away : Nat) (y_fee : Nat) (y_goesTo : Nat) (y_priceWas : Nat) (y_isKept : Nat) (y_kept : Nat) (y_trace : Nat) (a : Int32) (b : Int32) (k : Int32) : mI l yX9_home wsX9_home 2 46 D (tyW cI cZ cC cS) sq [(y, .inr (9, [.int 0, .int 0, .ref y_lane, .ref y_many, .ref y_item, .ref y_city, .ref y_fresh, .int 0, .ref y_tape, .int 0, .int 0, .int 0, .int 0, .int 0, .int 0, .int 0, .int 0, .int 0, .int 0, .int 0, .ref y_cost, .ref y_away, .ref y_fee, .ref y_goesTo, .ref y_priceWas, .ref y_isKept, .ref y_kept, .ref y_trace, .int 0])), (y_city, .inl (cI, 192, .inl (fun _ => 0)))] sz [.ref y, .int a, .int b, .int k] (fun r w => r = -1000001 ∧ w = []) := by
  refine b_metI (cc := cX9_home) (maxL := 9) (ret := (some .int)) (by decide) rfl (Nat.le_of_ble_eq_true rfl) ?_
  intro p e s m below meth c ls A H X hsz hP hK hD hA hS hl
  have S : CallFix p m c cX9_home 9 s ([.ref y, .int a, .int b, .int k] : List Value).toArray wsX9_home RX9 := X.1
  have hl : lv_has ls 9 [(0, .ref y), (1, .int a), (2, .int b), (3, .int k)] := hl
  have iX9 := jX9_home_X9
  refine lv_aload_n S.1 S.2.1 dX9_home_0 rfl (lv_at hl 0 rfl) ?_
  refine lv_iconst (v := 0) S.1 S.2.1 dX9_home_1 (by decide) ?_
  refine b_put (v := .int 0) S iX9 tyX9 tyX9_ok nmX9 hK hP hD hS 0 rfl rfl 0 (by decide) (by decide +kernel) rfl rfl rfl (Nat.le_of_ble_eq_true rfl) dX9_home_2 (fun H locs hP hD hS => ?_)
  have hP : va_P D vwCl [(y, .inr (9, [.int 0, .int 0, .ref y_lane, .ref y_many, .ref y_item, .ref y_city, .ref y_fresh, .int 0, .ref y_tape, .int 0, .int 0, .int 0, .int 0, .int 0, .int 0, .int 0, .int 0, .int 0, .int 0, .int 0, .ref y_cost, .ref y_away, .ref y_fee, .ref y_goesTo, .ref y_priceWas, .ref y_isKept, .ref y_kept, .ref y_trace, .int 0])), (y_city, .inl (cI, 192, .inl (fun _ => 0)))] H := hP
  have hD : va_D A [(y, .inr (9, [.int 0, .int 0, .ref y_lane, .ref y_many, .ref y_item, .ref y_city, .ref y_fresh, .int 0, .ref y_tape, .int 0, .int 0, .int 0, .int 0, .int 0, .int 0, .int 0, .int 0, .int 0, .int 0, .int 0, .ref y_cost, .ref y_away, .ref y_fee, .ref y_goesTo, .ref y_priceWas, .ref y_isKept, .ref y_kept, .ref y_trace, .int 0])), (y_city, .inl (cI, 192, .inl (fun _ => 0)))] := hD
  refine lv_aload_n S.1 S.2.1 dX9_home_5 rfl (lv_at hl 0 rfl) ?_
  refine lv_iload_n S.1 S.2.1 dX9_home_6 rfl (lv_at hl 1 rfl) ?_
  refine b_ai (wr := []) (b_runV (q0 := 0) (ci := 9) (As := [.int a]) (c_X9_isOne l D cI cZ cC cS sq H.size y y_lane y_many y_item y_city y_fresh y_tape y_cost y_away y_fee y_goesTo y_priceWas y_isKept y_kept y_trace a) S gX9_home_X9_isOne rfl hdV_X9_isOne ⟨Nat.le_of_ble_eq_true rfl, Nat.le_of_ble_eq_true rfl⟩ ⟨Nat.le_of_ble_eq_true rfl, Nat.le_of_ble_eq_true rfl⟩ hK hP hD rfl rfl [0, 1] rfl (by decide) rfl hl.1 rfl (Nat.le_of_ble_eq_true rfl) dX9_home_7) hP hD hS hA [0, 1] [] rfl rfl (by decide) (by decide) (fun r_1 w_2 H locs hw_3 hP hD hS => ?_)
  obtain ⟨rfl, rfl⟩ := hw_3
  have hP : va_P D vwCl [(y, .inr (9, [.int 0, .int 0, .ref y_lane, .ref y_many, .ref y_item, .ref y_city, .ref y_fresh, .int 0, .ref y_tape, .int 0, .int 0, .int 0, .int 0, .int 0, .int 0, .int 0, .int 0, .int 0, .int 0, .int 0, .ref y_cost, .ref y_away, .ref y_fee, .ref y_goesTo, .ref y_priceWas, .ref y_isKept, .ref y_kept, .ref y_trace, .int 0])), (y_city, .inl (cI, 192, .inl (fun _ => 0)))] H := hP
  have hD : va_D A [(y, .inr (9, [.int 0, .int 0, .ref y_lane, .ref y_many, .ref y_item, .ref y_city, .ref y_fresh, .int 0, .ref y_tape, .int 0, .int 0, .int 0, .int 0, .int 0, .int 0, .int 0, .int 0, .int 0, .int 0, .int 0, .ref y_cost, .ref y_away, .ref y_fee, .ref y_goesTo, .ref y_priceWas, .ref y_isKept, .ref y_kept, .ref y_trace, .int 0])), (y_city, .inl (cI, 192, .inl (fun _ => 0)))] := hD
  refine lv_if_eq (tgt := 45) S.1 S.2.1 dX9_home_10 (by decide) (fun c_4 => ?_) (fun c_4 => absurd c_4 (by decide))
  refine lv_ldc (v := (-1000001)) S.1 S.2.1 S.2.2.2.1 (S.2.2.2.2 (.constant RX9 73 (-1000001)) (by decide +kernel)) dX9_home_45 ?_
  have hP := hP.sub (ws' := []) [] rfl
  have hD := hD.sub (ws' := []) [] (by decide) rfl
  exact b_iret S.1 S.2.1 X.2.1 X.2.2.1 hP hD hS ⟨rfl, rfl⟩ dX9_home_47
set_option maxHeartbeats 4000000 in
set_option maxRecDepth 100000 in
theorem c_X9_nothing (l : Launch) (D : va_G) (cI cZ cC cS : ClassId) (sq sz : Nat) (y : Nat) (y_lane : Nat) (y_many : Nat) (y_item : Nat) (y_city : Nat) (y_fresh : Nat) (y_tape : Nat) (y_cost : Nat) (y_away : Nat) (y_fee : Nat) (y_goesTo : Nat) (y_priceWas : Nat) (y_isKept : Nat) (y_kept : Nat) (y_trace : Nat) (a : Int32) : mI l yX9_nothing wsX9_nothing 2 46 D (tyW cI cZ cC cS) sq [(y, .inr (9, [.int 0, .int 0, .ref y_lane, .ref y_many, .ref y_item, .ref y_city, .ref y_fresh, .int 0, .ref y_tape, .int 0, .int 0, .int 0, .int 0, .int 0, .int 0, .int 0, .int 0, .int 0, .int 0, .int 0, .ref y_cost, .ref y_away, .ref y_fee, .ref y_goesTo, .ref y_priceWas, .ref y_isKept, .ref y_kept, .ref y_trace, .int 0])), (y_city, .inl (cI, 192, .inl (fun _ => 0)))] sz [.ref y, .int a] (fun r w => r = -1000001 ∧ w = []) := by
  refine b_metI (cc := cX9_nothing) (maxL := 4) (ret := (some .int)) (by decide) rfl (Nat.le_of_ble_eq_true rfl) ?_
  intro p e s m below meth c ls A H X hsz hP hK hD hA hS hl
  have S : CallFix p m c cX9_nothing 4 s ([.ref y, .int a] : List Value).toArray wsX9_nothing RX9 := X.1
  have hl : lv_has ls 4 [(0, .ref y), (1, .int a)] := hl
  have iX9 := jX9_nothing_X9
  refine lv_aload_n S.1 S.2.1 dX9_nothing_0 rfl (lv_at hl 0 rfl) ?_
  refine lv_iconst (v := 0) S.1 S.2.1 dX9_nothing_1 (by decide) ?_
  refine b_put (v := .int 0) S iX9 tyX9 tyX9_ok nmX9 hK hP hD hS 0 rfl rfl 0 (by decide) (by decide +kernel) rfl rfl rfl (Nat.le_of_ble_eq_true rfl) dX9_nothing_2 (fun H locs hP hD hS => ?_)
  have hP : va_P D vwCl [(y, .inr (9, [.int 0, .int 0, .ref y_lane, .ref y_many, .ref y_item, .ref y_city, .ref y_fresh, .int 0, .ref y_tape, .int 0, .int 0, .int 0, .int 0, .int 0, .int 0, .int 0, .int 0, .int 0, .int 0, .int 0, .ref y_cost, .ref y_away, .ref y_fee, .ref y_goesTo, .ref y_priceWas, .ref y_isKept, .ref y_kept, .ref y_trace, .int 0])), (y_city, .inl (cI, 192, .inl (fun _ => 0)))] H := hP
  have hD : va_D A [(y, .inr (9, [.int 0, .int 0, .ref y_lane, .ref y_many, .ref y_item, .ref y_city, .ref y_fresh, .int 0, .ref y_tape, .int 0, .int 0, .int 0, .int 0, .int 0, .int 0, .int 0, .int 0, .int 0, .int 0, .int 0, .ref y_cost, .ref y_away, .ref y_fee, .ref y_goesTo, .ref y_priceWas, .ref y_isKept, .ref y_kept, .ref y_trace, .int 0])), (y_city, .inl (cI, 192, .inl (fun _ => 0)))] := hD
  refine lv_aload_n S.1 S.2.1 dX9_nothing_5 rfl (lv_at hl 0 rfl) ?_
  refine lv_iload_n S.1 S.2.1 dX9_nothing_6 rfl (lv_at hl 1 rfl) ?_
  refine b_ai (wr := []) (b_runV (q0 := 0) (ci := 9) (As := [.int a]) (c_X9_isOne l D cI cZ cC cS sq H.size y y_lane y_many y_item y_city y_fresh y_tape y_cost y_away y_fee y_goesTo y_priceWas y_isKept y_kept y_trace a) S gX9_nothing_X9_isOne rfl hdV_X9_isOne ⟨Nat.le_of_ble_eq_true rfl, Nat.le_of_ble_eq_true rfl⟩ ⟨Nat.le_of_ble_eq_true rfl, Nat.le_of_ble_eq_true rfl⟩ hK hP hD rfl rfl [0, 1] rfl (by decide) rfl hl.1 rfl (Nat.le_of_ble_eq_true rfl) dX9_nothing_7) hP hD hS hA [0, 1] [] rfl rfl (by decide) (by decide) (fun r_1 w_2 H locs hw_3 hP hD hS => ?_)
  obtain ⟨rfl, rfl⟩ := hw_3
  have hP : va_P D vwCl [(y, .inr (9, [.int 0, .int 0, .ref y_lane, .ref y_many, .ref y_item, .ref y_city, .ref y_fresh, .int 0, .ref y_tape, .int 0, .int 0, .int 0, .int 0, .int 0, .int 0, .int 0, .int 0, .int 0, .int 0, .int 0, .ref y_cost, .ref y_away, .ref y_fee, .ref y_goesTo, .ref y_priceWas, .ref y_isKept, .ref y_kept, .ref y_trace, .int 0])), (y_city, .inl (cI, 192, .inl (fun _ => 0)))] H := hP
  have hD : va_D A [(y, .inr (9, [.int 0, .int 0, .ref y_lane, .ref y_many, .ref y_item, .ref y_city, .ref y_fresh, .int 0, .ref y_tape, .int 0, .int 0, .int 0, .int 0, .int 0, .int 0, .int 0, .int 0, .int 0, .int 0, .int 0, .ref y_cost, .ref y_away, .ref y_fee, .ref y_goesTo, .ref y_priceWas, .ref y_isKept, .ref y_kept, .ref y_trace, .int 0])), (y_city, .inl (cI, 192, .inl (fun _ => 0)))] := hD
  refine lv_if_ne (tgt := 16) S.1 S.2.1 dX9_nothing_10 (by decide) (fun c_4 => absurd c_4 (by decide)) (fun c_4 => ?_)
  refine lv_ldc (v := (-1000001)) S.1 S.2.1 S.2.2.2.1 (S.2.2.2.2 (.constant RX9 73 (-1000001)) (by decide +kernel)) dX9_nothing_13 ?_
  have hP := hP.sub (ws' := []) [] rfl
  have hD := hD.sub (ws' := []) [] (by decide) rfl
  exact b_iret S.1 S.2.1 X.2.1 X.2.2.1 hP hD hS ⟨rfl, rfl⟩ dX9_nothing_15
set_option maxHeartbeats 4000000 in
set_option maxRecDepth 100000 in
theorem c_X9_look (l : Launch) (D : va_G) (cI cZ cC cS : ClassId) (sq sz : Nat) (y : Nat) (y_lane : Nat) (y_many : Nat) (y_item : Nat) (y_city : Nat) (y_fresh : Nat) (y_tape : Nat) (y_cost : Nat) (y_away : Nat) (y_fee : Nat) (y_goesTo : Nat) (y_priceWas : Nat) (y_isKept : Nat) (y_kept : Nat) (y_trace : Nat) (k : Int32) (a : Int32) (b : Int32) : mI l yX9_look wsX9_look 4 102 D (tyW cI cZ cC cS) sq [(y, .inr (9, [.int 0, .int 0, .ref y_lane, .ref y_many, .ref y_item, .ref y_city, .ref y_fresh, .int 0, .ref y_tape, .int 0, .int 0, .int 0, .int 0, .int 0, .int 0, .int 0, .int 0, .int 0, .int 0, .int 0, .ref y_cost, .ref y_away, .ref y_fee, .ref y_goesTo, .ref y_priceWas, .ref y_isKept, .ref y_kept, .ref y_trace, .int 0])), (y_city, .inl (cI, 192, .inl (fun _ => 0)))] sz [.ref y, .int k, .int a, .int b] (fun r w => r = -1000001 ∧ w = []) := by
  refine b_metI (cc := cX9_look) (maxL := 4) (ret := (some .int)) (by decide) rfl (Nat.le_of_ble_eq_true rfl) ?_
  intro p e s m below meth c ls A H X hsz hP hK hD hA hS hl
  have S : CallFix p m c cX9_look 4 s ([.ref y, .int k, .int a, .int b] : List Value).toArray wsX9_look RX9 := X.1
  have hl : lv_has ls 4 [(0, .ref y), (1, .int k), (2, .int a), (3, .int b)] := hl
  have iX9 := jX9_look_X9
  refine lv_aload_n S.1 S.2.1 dX9_look_0 rfl (lv_at hl 0 rfl) ?_
  refine lv_iconst (v := 0) S.1 S.2.1 dX9_look_1 (by decide) ?_
  refine b_put (v := .int 0) S iX9 tyX9 tyX9_ok nmX9 hK hP hD hS 0 rfl rfl 0 (by decide) (by decide +kernel) rfl rfl rfl (Nat.le_of_ble_eq_true rfl) dX9_look_2 (fun H locs hP hD hS => ?_)
  have hP : va_P D vwCl [(y, .inr (9, [.int 0, .int 0, .ref y_lane, .ref y_many, .ref y_item, .ref y_city, .ref y_fresh, .int 0, .ref y_tape, .int 0, .int 0, .int 0, .int 0, .int 0, .int 0, .int 0, .int 0, .int 0, .int 0, .int 0, .ref y_cost, .ref y_away, .ref y_fee, .ref y_goesTo, .ref y_priceWas, .ref y_isKept, .ref y_kept, .ref y_trace, .int 0])), (y_city, .inl (cI, 192, .inl (fun _ => 0)))] H := hP
  have hD : va_D A [(y, .inr (9, [.int 0, .int 0, .ref y_lane, .ref y_many, .ref y_item, .ref y_city, .ref y_fresh, .int 0, .ref y_tape, .int 0, .int 0, .int 0, .int 0, .int 0, .int 0, .int 0, .int 0, .int 0, .int 0, .int 0, .ref y_cost, .ref y_away, .ref y_fee, .ref y_goesTo, .ref y_priceWas, .ref y_isKept, .ref y_kept, .ref y_trace, .int 0])), (y_city, .inl (cI, 192, .inl (fun _ => 0)))] := hD
  refine lv_aload_n S.1 S.2.1 dX9_look_5 rfl (lv_at hl 0 rfl) ?_
  refine lv_iload_n S.1 S.2.1 dX9_look_6 rfl (lv_at hl 1 rfl) ?_
  refine b_ai (wr := []) (b_runV (q0 := 0) (ci := 9) (As := [.int k]) (c_X9_isOpen l D cI cZ cC cS sq H.size y y_lane y_many y_item y_city y_fresh y_tape y_cost y_away y_fee y_goesTo y_priceWas y_isKept y_kept y_trace k) S gX9_look_X9_isOpen rfl hdV_X9_isOpen ⟨Nat.le_of_ble_eq_true rfl, Nat.le_of_ble_eq_true rfl⟩ ⟨Nat.le_of_ble_eq_true rfl, Nat.le_of_ble_eq_true rfl⟩ hK hP hD rfl rfl [0, 1] rfl (by decide) rfl hl.1 rfl (Nat.le_of_ble_eq_true rfl) dX9_look_7) hP hD hS hA [0, 1] [] rfl rfl (by decide) (by decide) (fun r_1 w_2 H locs hw_3 hP hD hS => ?_)
  obtain ⟨rfl, rfl⟩ := hw_3
  have hP : va_P D vwCl [(y, .inr (9, [.int 0, .int 0, .ref y_lane, .ref y_many, .ref y_item, .ref y_city, .ref y_fresh, .int 0, .ref y_tape, .int 0, .int 0, .int 0, .int 0, .int 0, .int 0, .int 0, .int 0, .int 0, .int 0, .int 0, .ref y_cost, .ref y_away, .ref y_fee, .ref y_goesTo, .ref y_priceWas, .ref y_isKept, .ref y_kept, .ref y_trace, .int 0])), (y_city, .inl (cI, 192, .inl (fun _ => 0)))] H := hP
  have hD : va_D A [(y, .inr (9, [.int 0, .int 0, .ref y_lane, .ref y_many, .ref y_item, .ref y_city, .ref y_fresh, .int 0, .ref y_tape, .int 0, .int 0, .int 0, .int 0, .int 0, .int 0, .int 0, .int 0, .int 0, .int 0, .int 0, .ref y_cost, .ref y_away, .ref y_fee, .ref y_goesTo, .ref y_priceWas, .ref y_isKept, .ref y_kept, .ref y_trace, .int 0])), (y_city, .inl (cI, 192, .inl (fun _ => 0)))] := hD
  refine lv_if_eq (tgt := 32) S.1 S.2.1 dX9_look_10 (by decide) (fun c_4 => ?_) (fun c_4 => absurd c_4 (by decide))
  refine lv_ldc (v := (-1000001)) S.1 S.2.1 S.2.2.2.1 (S.2.2.2.2 (.constant RX9 73 (-1000001)) (by decide +kernel)) dX9_look_32 ?_
  have hP := hP.sub (ws' := []) [] rfl
  have hD := hD.sub (ws' := []) [] (by decide) rfl
  exact b_iret S.1 S.2.1 X.2.1 X.2.2.1 hP hD hS ⟨rfl, rfl⟩ dX9_look_34
set_option maxHeartbeats 4000000 in
set_option maxRecDepth 100000 in
theorem c_X9_wall (l : Launch) (D : va_G) (cI cZ cC cS : ClassId) (sq sz : Nat) (y : Nat) (y_lane : Nat) (y_many : Nat) (y_item : Nat) (y_city : Nat) (y_fresh : Nat) (y_tape : Nat) (y_cost : Nat) (y_away : Nat) (y_fee : Nat) (y_goesTo : Nat) (y_priceWas : Nat) (y_isKept : Nat) (y_kept : Nat) (y_trace : Nat) (k : Int32) (a : Int32) : mI l yX9_wall wsX9_wall 4 102 D (tyW cI cZ cC cS) sq [(y, .inr (9, [.int 0, .int 0, .ref y_lane, .ref y_many, .ref y_item, .ref y_city, .ref y_fresh, .int 0, .ref y_tape, .int 0, .int 0, .int 0, .int 0, .int 0, .int 0, .int 0, .int 0, .int 0, .int 0, .int 0, .ref y_cost, .ref y_away, .ref y_fee, .ref y_goesTo, .ref y_priceWas, .ref y_isKept, .ref y_kept, .ref y_trace, .int 0])), (y_city, .inl (cI, 192, .inl (fun _ => 0)))] sz [.ref y, .int k, .int a] (fun r w => r = -1000001 ∧ w = []) := by
  refine b_metI (cc := cX9_wall) (maxL := 5) (ret := (some .int)) (by decide) rfl (Nat.le_of_ble_eq_true rfl) ?_
  intro p e s m below meth c ls A H X hsz hP hK hD hA hS hl
  have S : CallFix p m c cX9_wall 5 s ([.ref y, .int k, .int a] : List Value).toArray wsX9_wall RX9 := X.1
  have hl : lv_has ls 5 [(0, .ref y), (1, .int k), (2, .int a)] := hl
  have iX9 := jX9_wall_X9
  refine lv_aload_n S.1 S.2.1 dX9_wall_0 rfl (lv_at hl 0 rfl) ?_
  refine lv_iconst (v := 0) S.1 S.2.1 dX9_wall_1 (by decide) ?_
  refine b_put (v := .int 0) S iX9 tyX9 tyX9_ok nmX9 hK hP hD hS 0 rfl rfl 0 (by decide) (by decide +kernel) rfl rfl rfl (Nat.le_of_ble_eq_true rfl) dX9_wall_2 (fun H locs hP hD hS => ?_)
  have hP : va_P D vwCl [(y, .inr (9, [.int 0, .int 0, .ref y_lane, .ref y_many, .ref y_item, .ref y_city, .ref y_fresh, .int 0, .ref y_tape, .int 0, .int 0, .int 0, .int 0, .int 0, .int 0, .int 0, .int 0, .int 0, .int 0, .int 0, .ref y_cost, .ref y_away, .ref y_fee, .ref y_goesTo, .ref y_priceWas, .ref y_isKept, .ref y_kept, .ref y_trace, .int 0])), (y_city, .inl (cI, 192, .inl (fun _ => 0)))] H := hP
  have hD : va_D A [(y, .inr (9, [.int 0, .int 0, .ref y_lane, .ref y_many, .ref y_item, .ref y_city, .ref y_fresh, .int 0, .ref y_tape, .int 0, .int 0, .int 0, .int 0, .int 0, .int 0, .int 0, .int 0, .int 0, .int 0, .int 0, .ref y_cost, .ref y_away, .ref y_fee, .ref y_goesTo, .ref y_priceWas, .ref y_isKept, .ref y_kept, .ref y_trace, .int 0])), (y_city, .inl (cI, 192, .inl (fun _ => 0)))] := hD
  refine lv_aload_n S.1 S.2.1 dX9_wall_5 rfl (lv_at hl 0 rfl) ?_
  refine lv_iload_n S.1 S.2.1 dX9_wall_6 rfl (lv_at hl 1 rfl) ?_
  refine b_ai (wr := []) (b_runV (q0 := 0) (ci := 9) (As := [.int k]) (c_X9_isOpen l D cI cZ cC cS sq H.size y y_lane y_many y_item y_city y_fresh y_tape y_cost y_away y_fee y_goesTo y_priceWas y_isKept y_kept y_trace k) S gX9_wall_X9_isOpen rfl hdV_X9_isOpen ⟨Nat.le_of_ble_eq_true rfl, Nat.le_of_ble_eq_true rfl⟩ ⟨Nat.le_of_ble_eq_true rfl, Nat.le_of_ble_eq_true rfl⟩ hK hP hD rfl rfl [0, 1] rfl (by decide) rfl hl.1 rfl (Nat.le_of_ble_eq_true rfl) dX9_wall_7) hP hD hS hA [0, 1] [] rfl rfl (by decide) (by decide) (fun r_1 w_2 H locs hw_3 hP hD hS => ?_)
  obtain ⟨rfl, rfl⟩ := hw_3
  have hP : va_P D vwCl [(y, .inr (9, [.int 0, .int 0, .ref y_lane, .ref y_many, .ref y_item, .ref y_city, .ref y_fresh, .int 0, .ref y_tape, .int 0, .int 0, .int 0, .int 0, .int 0, .int 0, .int 0, .int 0, .int 0, .int 0, .int 0, .ref y_cost, .ref y_away, .ref y_fee, .ref y_goesTo, .ref y_priceWas, .ref y_isKept, .ref y_kept, .ref y_trace, .int 0])), (y_city, .inl (cI, 192, .inl (fun _ => 0)))] H := hP
  have hD : va_D A [(y, .inr (9, [.int 0, .int 0, .ref y_lane, .ref y_many, .ref y_item, .ref y_city, .ref y_fresh, .int 0, .ref y_tape, .int 0, .int 0, .int 0, .int 0, .int 0, .int 0, .int 0, .int 0, .int 0, .int 0, .int 0, .ref y_cost, .ref y_away, .ref y_fee, .ref y_goesTo, .ref y_priceWas, .ref y_isKept, .ref y_kept, .ref y_trace, .int 0])), (y_city, .inl (cI, 192, .inl (fun _ => 0)))] := hD
  refine lv_if_eq (tgt := 20) S.1 S.2.1 dX9_wall_10 (by decide) (fun c_4 => ?_) (fun c_4 => absurd c_4 (by decide))
  refine lv_ldc (v := (-1000001)) S.1 S.2.1 S.2.2.2.1 (S.2.2.2.2 (.constant RX9 73 (-1000001)) (by decide +kernel)) dX9_wall_20 ?_
  have hP := hP.sub (ws' := []) [] rfl
  have hD := hD.sub (ws' := []) [] (by decide) rfl
  exact b_iret S.1 S.2.1 X.2.1 X.2.2.1 hP hD hS ⟨rfl, rfl⟩ dX9_wall_22
set_option maxHeartbeats 4000000 in
set_option maxRecDepth 100000 in
theorem c_X9_kind (l : Launch) (D : va_G) (cI cZ cC cS : ClassId) (sq sz : Nat) (y : Nat) (y_lane : Nat) (y_many : Nat) (y_item : Nat) (y_city : Nat) (y_fresh : Nat) (y_tape : Nat) (y_cost : Nat) (y_away : Nat) (y_fee : Nat) (y_goesTo : Nat) (y_priceWas : Nat) (y_isKept : Nat) (y_kept : Nat) (y_trace : Nat) (k : Int32) : mI l yX9_kind wsX9_kind 3 81 D (tyW cI cZ cC cS) sq [(y, .inr (9, [.int 0, .int 0, .ref y_lane, .ref y_many, .ref y_item, .ref y_city, .ref y_fresh, .int 0, .ref y_tape, .int 0, .int 0, .int 0, .int 0, .int 0, .int 0, .int 0, .int 0, .int 0, .int 0, .int 0, .ref y_cost, .ref y_away, .ref y_fee, .ref y_goesTo, .ref y_priceWas, .ref y_isKept, .ref y_kept, .ref y_trace, .int 0])), (y_city, .inl (cI, 192, .inl (fun _ => 0)))] sz [.ref y, .int k] (fun r w => r = -1000001 ∧ w = []) := by
  refine b_metI (cc := cX9_kind) (maxL := 2) (ret := (some .int)) (by decide) rfl (Nat.le_of_ble_eq_true rfl) ?_
  intro p e s m below meth c ls A H X hsz hP hK hD hA hS hl
  have S : CallFix p m c cX9_kind 2 s ([.ref y, .int k] : List Value).toArray wsX9_kind RX9 := X.1
  have hl : lv_has ls 2 [(0, .ref y), (1, .int k)] := hl
  have iX9 := jX9_kind_X9
  refine lv_aload_n S.1 S.2.1 dX9_kind_0 rfl (lv_at hl 0 rfl) ?_
  refine lv_iconst (v := 0) S.1 S.2.1 dX9_kind_1 (by decide) ?_
  refine b_put (v := .int 0) S iX9 tyX9 tyX9_ok nmX9 hK hP hD hS 0 rfl rfl 0 (by decide) (by decide +kernel) rfl rfl rfl (Nat.le_of_ble_eq_true rfl) dX9_kind_2 (fun H locs hP hD hS => ?_)
  have hP : va_P D vwCl [(y, .inr (9, [.int 0, .int 0, .ref y_lane, .ref y_many, .ref y_item, .ref y_city, .ref y_fresh, .int 0, .ref y_tape, .int 0, .int 0, .int 0, .int 0, .int 0, .int 0, .int 0, .int 0, .int 0, .int 0, .int 0, .ref y_cost, .ref y_away, .ref y_fee, .ref y_goesTo, .ref y_priceWas, .ref y_isKept, .ref y_kept, .ref y_trace, .int 0])), (y_city, .inl (cI, 192, .inl (fun _ => 0)))] H := hP
  have hD : va_D A [(y, .inr (9, [.int 0, .int 0, .ref y_lane, .ref y_many, .ref y_item, .ref y_city, .ref y_fresh, .int 0, .ref y_tape, .int 0, .int 0, .int 0, .int 0, .int 0, .int 0, .int 0, .int 0, .int 0, .int 0, .int 0, .ref y_cost, .ref y_away, .ref y_fee, .ref y_goesTo, .ref y_priceWas, .ref y_isKept, .ref y_kept, .ref y_trace, .int 0])), (y_city, .inl (cI, 192, .inl (fun _ => 0)))] := hD
  refine lv_aload_n S.1 S.2.1 dX9_kind_5 rfl (lv_at hl 0 rfl) ?_
  refine lv_iload_n S.1 S.2.1 dX9_kind_6 rfl (lv_at hl 1 rfl) ?_
  refine b_ai (wr := []) (b_runV (q0 := 0) (ci := 9) (As := [.int k]) (c_X9_isCell l D cI cZ cC cS sq H.size y y_lane y_many y_item y_city y_fresh y_tape y_cost y_away y_fee y_goesTo y_priceWas y_isKept y_kept y_trace k) S gX9_kind_X9_isCell rfl hdV_X9_isCell ⟨Nat.le_of_ble_eq_true rfl, Nat.le_of_ble_eq_true rfl⟩ ⟨Nat.le_of_ble_eq_true rfl, Nat.le_of_ble_eq_true rfl⟩ hK hP hD rfl rfl [0, 1] rfl (by decide) rfl hl.1 rfl (Nat.le_of_ble_eq_true rfl) dX9_kind_7) hP hD hS hA [0, 1] [] rfl rfl (by decide) (by decide) (fun r_1 w_2 H locs hw_3 hP hD hS => ?_)
  obtain ⟨rfl, rfl⟩ := hw_3
  have hP : va_P D vwCl [(y, .inr (9, [.int 0, .int 0, .ref y_lane, .ref y_many, .ref y_item, .ref y_city, .ref y_fresh, .int 0, .ref y_tape, .int 0, .int 0, .int 0, .int 0, .int 0, .int 0, .int 0, .int 0, .int 0, .int 0, .int 0, .ref y_cost, .ref y_away, .ref y_fee, .ref y_goesTo, .ref y_priceWas, .ref y_isKept, .ref y_kept, .ref y_trace, .int 0])), (y_city, .inl (cI, 192, .inl (fun _ => 0)))] H := hP
  have hD : va_D A [(y, .inr (9, [.int 0, .int 0, .ref y_lane, .ref y_many, .ref y_item, .ref y_city, .ref y_fresh, .int 0, .ref y_tape, .int 0, .int 0, .int 0, .int 0, .int 0, .int 0, .int 0, .int 0, .int 0, .int 0, .int 0, .ref y_cost, .ref y_away, .ref y_fee, .ref y_goesTo, .ref y_priceWas, .ref y_isKept, .ref y_kept, .ref y_trace, .int 0])), (y_city, .inl (cI, 192, .inl (fun _ => 0)))] := hD
  refine lv_if_eq (tgt := 21) S.1 S.2.1 dX9_kind_10 (by decide) (fun c_4 => ?_) (fun c_4 => absurd c_4 (by decide))
  refine lv_ldc (v := (-1000001)) S.1 S.2.1 S.2.2.2.1 (S.2.2.2.2 (.constant RX9 73 (-1000001)) (by decide +kernel)) dX9_kind_21 ?_
  have hP := hP.sub (ws' := []) [] rfl
  have hD := hD.sub (ws' := []) [] (by decide) rfl
  exact b_iret S.1 S.2.1 X.2.1 X.2.2.1 hP hD hS ⟨rfl, rfl⟩ dX9_kind_23
set_option maxHeartbeats 4000000 in
set_option maxRecDepth 100000 in
theorem c_X9_as (l : Launch) (D : va_G) (cI cZ cC cS : ClassId) (sq sz : Nat) (y : Nat) (y_lane : Nat) (y_many : Nat) (y_item : Nat) (y_city : Nat) (y_fresh : Nat) (y_tape : Nat) (y_cost : Nat) (y_away : Nat) (y_fee : Nat) (y_goesTo : Nat) (y_priceWas : Nat) (y_isKept : Nat) (y_kept : Nat) (y_trace : Nat) (k : Int32) (a : Int32) : mI l yX9_as wsX9_as 3 81 D (tyW cI cZ cC cS) sq [(y, .inr (9, [.int 0, .int 0, .ref y_lane, .ref y_many, .ref y_item, .ref y_city, .ref y_fresh, .int 0, .ref y_tape, .int 0, .int 0, .int 0, .int 0, .int 0, .int 0, .int 0, .int 0, .int 0, .int 0, .int 0, .ref y_cost, .ref y_away, .ref y_fee, .ref y_goesTo, .ref y_priceWas, .ref y_isKept, .ref y_kept, .ref y_trace, .int 0])), (y_city, .inl (cI, 192, .inl (fun _ => 0)))] sz [.ref y, .int k, .int a] (fun r w => r = -1000001 ∧ w = []) := by
  refine b_metI (cc := cX9_as) (maxL := 3) (ret := (some .int)) (by decide) rfl (Nat.le_of_ble_eq_true rfl) ?_
  intro p e s m below meth c ls A H X hsz hP hK hD hA hS hl
  have S : CallFix p m c cX9_as 3 s ([.ref y, .int k, .int a] : List Value).toArray wsX9_as RX9 := X.1
  have hl : lv_has ls 3 [(0, .ref y), (1, .int k), (2, .int a)] := hl
  have iX9 := jX9_as_X9
  refine lv_aload_n S.1 S.2.1 dX9_as_0 rfl (lv_at hl 0 rfl) ?_
  refine lv_iconst (v := 0) S.1 S.2.1 dX9_as_1 (by decide) ?_
  refine b_put (v := .int 0) S iX9 tyX9 tyX9_ok nmX9 hK hP hD hS 0 rfl rfl 0 (by decide) (by decide +kernel) rfl rfl rfl (Nat.le_of_ble_eq_true rfl) dX9_as_2 (fun H locs hP hD hS => ?_)
  have hP : va_P D vwCl [(y, .inr (9, [.int 0, .int 0, .ref y_lane, .ref y_many, .ref y_item, .ref y_city, .ref y_fresh, .int 0, .ref y_tape, .int 0, .int 0, .int 0, .int 0, .int 0, .int 0, .int 0, .int 0, .int 0, .int 0, .int 0, .ref y_cost, .ref y_away, .ref y_fee, .ref y_goesTo, .ref y_priceWas, .ref y_isKept, .ref y_kept, .ref y_trace, .int 0])), (y_city, .inl (cI, 192, .inl (fun _ => 0)))] H := hP
  have hD : va_D A [(y, .inr (9, [.int 0, .int 0, .ref y_lane, .ref y_many, .ref y_item, .ref y_city, .ref y_fresh, .int 0, .ref y_tape, .int 0, .int 0, .int 0, .int 0, .int 0, .int 0, .int 0, .int 0, .int 0, .int 0, .int 0, .ref y_cost, .ref y_away, .ref y_fee, .ref y_goesTo, .ref y_priceWas, .ref y_isKept, .ref y_kept, .ref y_trace, .int 0])), (y_city, .inl (cI, 192, .inl (fun _ => 0)))] := hD
  refine lv_aload_n S.1 S.2.1 dX9_as_5 rfl (lv_at hl 0 rfl) ?_
  refine lv_iload_n S.1 S.2.1 dX9_as_6 rfl (lv_at hl 1 rfl) ?_
  refine b_ai (wr := []) (b_runV (q0 := 0) (ci := 9) (As := [.int k]) (c_X9_isCell l D cI cZ cC cS sq H.size y y_lane y_many y_item y_city y_fresh y_tape y_cost y_away y_fee y_goesTo y_priceWas y_isKept y_kept y_trace k) S gX9_as_X9_isCell rfl hdV_X9_isCell ⟨Nat.le_of_ble_eq_true rfl, Nat.le_of_ble_eq_true rfl⟩ ⟨Nat.le_of_ble_eq_true rfl, Nat.le_of_ble_eq_true rfl⟩ hK hP hD rfl rfl [0, 1] rfl (by decide) rfl hl.1 rfl (Nat.le_of_ble_eq_true rfl) dX9_as_7) hP hD hS hA [0, 1] [] rfl rfl (by decide) (by decide) (fun r_1 w_2 H locs hw_3 hP hD hS => ?_)
  obtain ⟨rfl, rfl⟩ := hw_3
  have hP : va_P D vwCl [(y, .inr (9, [.int 0, .int 0, .ref y_lane, .ref y_many, .ref y_item, .ref y_city, .ref y_fresh, .int 0, .ref y_tape, .int 0, .int 0, .int 0, .int 0, .int 0, .int 0, .int 0, .int 0, .int 0, .int 0, .int 0, .ref y_cost, .ref y_away, .ref y_fee, .ref y_goesTo, .ref y_priceWas, .ref y_isKept, .ref y_kept, .ref y_trace, .int 0])), (y_city, .inl (cI, 192, .inl (fun _ => 0)))] H := hP
  have hD : va_D A [(y, .inr (9, [.int 0, .int 0, .ref y_lane, .ref y_many, .ref y_item, .ref y_city, .ref y_fresh, .int 0, .ref y_tape, .int 0, .int 0, .int 0, .int 0, .int 0, .int 0, .int 0, .int 0, .int 0, .int 0, .int 0, .ref y_cost, .ref y_away, .ref y_fee, .ref y_goesTo, .ref y_priceWas, .ref y_isKept, .ref y_kept, .ref y_trace, .int 0])), (y_city, .inl (cI, 192, .inl (fun _ => 0)))] := hD
  refine lv_if_eq (tgt := 25) S.1 S.2.1 dX9_as_10 (by decide) (fun c_4 => ?_) (fun c_4 => absurd c_4 (by decide))
  refine lv_ldc (v := (-1000001)) S.1 S.2.1 S.2.2.2.1 (S.2.2.2.2 (.constant RX9 73 (-1000001)) (by decide +kernel)) dX9_as_25 ?_
  have hP := hP.sub (ws' := []) [] rfl
  have hD := hD.sub (ws' := []) [] (by decide) rfl
  exact b_iret S.1 S.2.1 X.2.1 X.2.2.1 hP hD hS ⟨rfl, rfl⟩ dX9_as_27
set_option maxHeartbeats 4000000 in
set_option maxRecDepth 100000 in
theorem c_X9_ask (l : Launch) (D : va_G) (cI cZ cC cS : ClassId) (sq sz : Nat) (y : Nat) (y_lane : Nat) (y_many : Nat) (y_item : Nat) (y_city : Nat) (y_fresh : Nat) (y_tape : Nat) (y_cost : Nat) (y_away : Nat) (y_fee : Nat) (y_goesTo : Nat) (y_priceWas : Nat) (y_isKept : Nat) (y_kept : Nat) (y_trace : Nat) (k : Int32) (a : Int32) : mI l yX9_ask wsX9_ask 3 81 D (tyW cI cZ cC cS) sq [(y, .inr (9, [.int 0, .int 0, .ref y_lane, .ref y_many, .ref y_item, .ref y_city, .ref y_fresh, .int 0, .ref y_tape, .int 0, .int 0, .int 0, .int 0, .int 0, .int 0, .int 0, .int 0, .int 0, .int 0, .int 0, .ref y_cost, .ref y_away, .ref y_fee, .ref y_goesTo, .ref y_priceWas, .ref y_isKept, .ref y_kept, .ref y_trace, .int 0])), (y_city, .inl (cI, 192, .inl (fun _ => 0)))] sz [.ref y, .int k, .int a] (fun r w => r = -1000001 ∧ w = []) := by
  refine b_metI (cc := cX9_ask) (maxL := 3) (ret := (some .int)) (by decide) rfl (Nat.le_of_ble_eq_true rfl) ?_
  intro p e s m below meth c ls A H X hsz hP hK hD hA hS hl
  have S : CallFix p m c cX9_ask 3 s ([.ref y, .int k, .int a] : List Value).toArray wsX9_ask RX9 := X.1
  have hl : lv_has ls 3 [(0, .ref y), (1, .int k), (2, .int a)] := hl
  have iX9 := jX9_ask_X9
  refine lv_aload_n S.1 S.2.1 dX9_ask_0 rfl (lv_at hl 0 rfl) ?_
  refine lv_iconst (v := 0) S.1 S.2.1 dX9_ask_1 (by decide) ?_
  refine b_put (v := .int 0) S iX9 tyX9 tyX9_ok nmX9 hK hP hD hS 0 rfl rfl 0 (by decide) (by decide +kernel) rfl rfl rfl (Nat.le_of_ble_eq_true rfl) dX9_ask_2 (fun H locs hP hD hS => ?_)
  have hP : va_P D vwCl [(y, .inr (9, [.int 0, .int 0, .ref y_lane, .ref y_many, .ref y_item, .ref y_city, .ref y_fresh, .int 0, .ref y_tape, .int 0, .int 0, .int 0, .int 0, .int 0, .int 0, .int 0, .int 0, .int 0, .int 0, .int 0, .ref y_cost, .ref y_away, .ref y_fee, .ref y_goesTo, .ref y_priceWas, .ref y_isKept, .ref y_kept, .ref y_trace, .int 0])), (y_city, .inl (cI, 192, .inl (fun _ => 0)))] H := hP
  have hD : va_D A [(y, .inr (9, [.int 0, .int 0, .ref y_lane, .ref y_many, .ref y_item, .ref y_city, .ref y_fresh, .int 0, .ref y_tape, .int 0, .int 0, .int 0, .int 0, .int 0, .int 0, .int 0, .int 0, .int 0, .int 0, .int 0, .ref y_cost, .ref y_away, .ref y_fee, .ref y_goesTo, .ref y_priceWas, .ref y_isKept, .ref y_kept, .ref y_trace, .int 0])), (y_city, .inl (cI, 192, .inl (fun _ => 0)))] := hD
  refine lv_aload_n S.1 S.2.1 dX9_ask_5 rfl (lv_at hl 0 rfl) ?_
  refine lv_iload_n S.1 S.2.1 dX9_ask_6 rfl (lv_at hl 1 rfl) ?_
  refine b_ai (wr := []) (b_runV (q0 := 0) (ci := 9) (As := [.int k]) (c_X9_isCell l D cI cZ cC cS sq H.size y y_lane y_many y_item y_city y_fresh y_tape y_cost y_away y_fee y_goesTo y_priceWas y_isKept y_kept y_trace k) S gX9_ask_X9_isCell rfl hdV_X9_isCell ⟨Nat.le_of_ble_eq_true rfl, Nat.le_of_ble_eq_true rfl⟩ ⟨Nat.le_of_ble_eq_true rfl, Nat.le_of_ble_eq_true rfl⟩ hK hP hD rfl rfl [0, 1] rfl (by decide) rfl hl.1 rfl (Nat.le_of_ble_eq_true rfl) dX9_ask_7) hP hD hS hA [0, 1] [] rfl rfl (by decide) (by decide) (fun r_1 w_2 H locs hw_3 hP hD hS => ?_)
  obtain ⟨rfl, rfl⟩ := hw_3
  have hP : va_P D vwCl [(y, .inr (9, [.int 0, .int 0, .ref y_lane, .ref y_many, .ref y_item, .ref y_city, .ref y_fresh, .int 0, .ref y_tape, .int 0, .int 0, .int 0, .int 0, .int 0, .int 0, .int 0, .int 0, .int 0, .int 0, .int 0, .ref y_cost, .ref y_away, .ref y_fee, .ref y_goesTo, .ref y_priceWas, .ref y_isKept, .ref y_kept, .ref y_trace, .int 0])), (y_city, .inl (cI, 192, .inl (fun _ => 0)))] H := hP
  have hD : va_D A [(y, .inr (9, [.int 0, .int 0, .ref y_lane, .ref y_many, .ref y_item, .ref y_city, .ref y_fresh, .int 0, .ref y_tape, .int 0, .int 0, .int 0, .int 0, .int 0, .int 0, .int 0, .int 0, .int 0, .int 0, .int 0, .ref y_cost, .ref y_away, .ref y_fee, .ref y_goesTo, .ref y_priceWas, .ref y_isKept, .ref y_kept, .ref y_trace, .int 0])), (y_city, .inl (cI, 192, .inl (fun _ => 0)))] := hD
  refine lv_if_eq (tgt := 23) S.1 S.2.1 dX9_ask_10 (by decide) (fun c_4 => ?_) (fun c_4 => absurd c_4 (by decide))
  refine lv_ldc (v := (-1000001)) S.1 S.2.1 S.2.2.2.1 (S.2.2.2.2 (.constant RX9 73 (-1000001)) (by decide +kernel)) dX9_ask_23 ?_
  have hP := hP.sub (ws' := []) [] rfl
  have hD := hD.sub (ws' := []) [] (by decide) rfl
  exact b_iret S.1 S.2.1 X.2.1 X.2.2.1 hP hD hS ⟨rfl, rfl⟩ dX9_ask_25
set_option maxHeartbeats 4000000 in
set_option maxRecDepth 100000 in
theorem c_X9_trace (l : Launch) (D : va_G) (cI cZ cC cS : ClassId) (sq sz : Nat) (y : Nat) (y_lane : Nat) (y_many : Nat) (y_item : Nat) (y_city : Nat) (y_fresh : Nat) (y_tape : Nat) (y_cost : Nat) (y_away : Nat) (y_fee : Nat) (y_goesTo : Nat) (y_priceWas : Nat) (y_isKept : Nat) (y_kept : Nat) (y_trace : Nat) (a : Int32) : mI l yX9_trace wsX9_trace 1 25 D (tyW cI cZ cC cS) sq [(y, .inr (9, [.int 0, .int 0, .ref y_lane, .ref y_many, .ref y_item, .ref y_city, .ref y_fresh, .int 0, .ref y_tape, .int 0, .int 0, .int 0, .int 0, .int 0, .int 0, .int 0, .int 0, .int 0, .int 0, .int 0, .ref y_cost, .ref y_away, .ref y_fee, .ref y_goesTo, .ref y_priceWas, .ref y_isKept, .ref y_kept, .ref y_trace, .int 0]))] sz [.ref y, .int a] (fun r w => r = -1000000 ∧ w = []) := by
  refine b_metI (cc := cX9_trace) (maxL := 2) (ret := (some .int)) (by decide) rfl (Nat.le_of_ble_eq_true rfl) ?_
  intro p e s m below meth c ls A H X hsz hP hK hD hA hS hl
  have S : CallFix p m c cX9_trace 2 s ([.ref y, .int a] : List Value).toArray wsX9_trace RX9 := X.1
  have hl : lv_has ls 2 [(0, .ref y), (1, .int a)] := hl
  have iX9 := jX9_trace_X9
  refine lv_aload_n S.1 S.2.1 dX9_trace_0 rfl (lv_at hl 0 rfl) ?_
  refine lv_iconst (v := 0) S.1 S.2.1 dX9_trace_1 (by decide) ?_
  refine b_put (v := .int 0) S iX9 tyX9 tyX9_ok nmX9 hK hP hD hS 0 rfl rfl 0 (by decide) (by decide +kernel) rfl rfl rfl (Nat.le_of_ble_eq_true rfl) dX9_trace_2 (fun H locs hP hD hS => ?_)
  have hP : va_P D vwCl [(y, .inr (9, [.int 0, .int 0, .ref y_lane, .ref y_many, .ref y_item, .ref y_city, .ref y_fresh, .int 0, .ref y_tape, .int 0, .int 0, .int 0, .int 0, .int 0, .int 0, .int 0, .int 0, .int 0, .int 0, .int 0, .ref y_cost, .ref y_away, .ref y_fee, .ref y_goesTo, .ref y_priceWas, .ref y_isKept, .ref y_kept, .ref y_trace, .int 0]))] H := hP
  have hD : va_D A [(y, .inr (9, [.int 0, .int 0, .ref y_lane, .ref y_many, .ref y_item, .ref y_city, .ref y_fresh, .int 0, .ref y_tape, .int 0, .int 0, .int 0, .int 0, .int 0, .int 0, .int 0, .int 0, .int 0, .int 0, .int 0, .ref y_cost, .ref y_away, .ref y_fee, .ref y_goesTo, .ref y_priceWas, .ref y_isKept, .ref y_kept, .ref y_trace, .int 0]))] := hD
  refine lv_iload_n S.1 S.2.1 dX9_trace_5 rfl (lv_at hl 1 rfl) ?_
  refine lv_i2l (v := a.toInt64) S.1 S.2.1 dX9_trace_6 rfl ?_
  refine lv_lconst (v := 0) S.1 S.2.1 dX9_trace_7 (by decide) ?_
  refine lv_aload_n S.1 S.2.1 dX9_trace_8 rfl (lv_at hl 0 rfl) ?_
  refine b_get (v := .int 0) S iX9 hK hP 0 rfl rfl 28 (by decide) (by decide +kernel) rfl dX9_trace_9 ?_
  refine lv_iconst (v := 1) S.1 S.2.1 dX9_trace_12 (by decide) ?_
  refine lv_isub S.1 S.2.1 dX9_trace_13 ?_
  refine lv_topi (fun x_1 ex_1 => ?_)
  have ex_1 : x_1 = -1 := by rw [ex_1]; decide
  subst ex_1
  refine lv_i2l (v := (-1)) S.1 S.2.1 dX9_trace_14 (by decide) ?_
  refine b_ai (wr := [(y, .inr (9, [.int 0, .int 0, .ref y_lane, .ref y_many, .ref y_item, .ref y_city, .ref y_fresh, .int 0, .ref y_tape, .int 0, .int 0, .int 0, .int 0, .int 0, .int 0, .int 0, .int 0, .int 0, .int 0, .int 0, .ref y_cost, .ref y_away, .ref y_fee, .ref y_goesTo, .ref y_priceWas, .ref y_isKept, .ref y_kept, .ref y_trace, .int 0]))]) (b_runS (As := [.long (a.toInt64), .long 0, .long (-1)]) (c_X9_in_f l D cI cZ cC cS sq H.size (a.toInt64) 0 (-1) (fun z => by rw [l_lt (N := 0) rfl] at z; rw [l_gt (N := -1) rfl]; omega)) S gX9_trace_X9_in rfl hdS_X9_in ⟨Nat.le_of_ble_eq_true rfl, Nat.le_of_ble_eq_true rfl⟩ ⟨Nat.le_of_ble_eq_true rfl, Nat.le_of_ble_eq_true rfl⟩ hK hP hD [] rfl (by decide) rfl hl.1 rfl (Nat.le_of_ble_eq_true rfl) dX9_trace_15) hP hD hS hA [] [0] rfl rfl (by decide) (by decide) (fun r_2 w_3 H locs hw_4 hP hD hS => ?_)
  obtain ⟨rfl, rfl⟩ := hw_4
  have hP : va_P D vwCl [(y, .inr (9, [.int 0, .int 0, .ref y_lane, .ref y_many, .ref y_item, .ref y_city, .ref y_fresh, .int 0, .ref y_tape, .int 0, .int 0, .int 0, .int 0, .int 0, .int 0, .int 0, .int 0, .int 0, .int 0, .int 0, .ref y_cost, .ref y_away, .ref y_fee, .ref y_goesTo, .ref y_priceWas, .ref y_isKept, .ref y_kept, .ref y_trace, .int 0]))] H := hP
  have hD : va_D A [(y, .inr (9, [.int 0, .int 0, .ref y_lane, .ref y_many, .ref y_item, .ref y_city, .ref y_fresh, .int 0, .ref y_tape, .int 0, .int 0, .int 0, .int 0, .int 0, .int 0, .int 0, .int 0, .int 0, .int 0, .int 0, .ref y_cost, .ref y_away, .ref y_fee, .ref y_goesTo, .ref y_priceWas, .ref y_isKept, .ref y_kept, .ref y_trace, .int 0]))] := hD
  refine lv_if_eq (tgt := 30) S.1 S.2.1 dX9_trace_18 (by decide) (fun c_5 => ?_) (fun c_5 => absurd c_5 (by decide))
  refine lv_ldc (v := (-1000000)) S.1 S.2.1 S.2.2.2.1 (S.2.2.2.2 (.constant RX9 89 (-1000000)) (by decide +kernel)) dX9_trace_30 ?_
  have hP := hP.sub (ws' := []) [] rfl
  have hD := hD.sub (ws' := []) [] (by decide) rfl
  exact b_iret S.1 S.2.1 X.2.1 X.2.2.1 hP hD hS ⟨rfl, rfl⟩ dX9_trace_32
set_option maxHeartbeats 4000000 in
set_option maxRecDepth 100000 in
theorem c_X9_set_bad (l : Launch) (D : va_G) (cI cZ cC cS : ClassId) (sq sz : Nat) (y : Nat) (y_lane : Nat) (y_many : Nat) (y_item : Nat) (y_city : Nat) (y_fresh : Nat) (y_tape : Nat) (y_cost : Nat) (y_away : Nat) (y_fee : Nat) (y_goesTo : Nat) (y_priceWas : Nat) (y_isKept : Nat) (y_kept : Nat) (y_trace : Nat) (a : Int32) (b : Int32) (v : Int32) (hr : a.toInt < 0 ∨ 7 < a.toInt) : mI l yX9_set wsX9_set 2 45 D (tyW cI cZ cC cS) sq [(y, .inr (9, [.int 0, .int 0, .ref y_lane, .ref y_many, .ref y_item, .ref y_city, .ref y_fresh, .int 0, .ref y_tape, .int 0, .int 0, .int 0, .int 0, .int 0, .int 0, .int 0, .int 0, .int 0, .int 0, .int 0, .ref y_cost, .ref y_away, .ref y_fee, .ref y_goesTo, .ref y_priceWas, .ref y_isKept, .ref y_kept, .ref y_trace, .int 0]))] sz [.ref y, .int a, .int b, .int v] (fun r w => r = -1000001 ∧ w = []) := by
  refine b_metI (cc := cX9_set) (maxL := 4) (ret := (some .int)) (by decide) rfl (Nat.le_of_ble_eq_true rfl) ?_
  intro p e s m below meth c ls A H X hsz hP hK hD hA hS hl
  have S : CallFix p m c cX9_set 4 s ([.ref y, .int a, .int b, .int v] : List Value).toArray wsX9_set RX9 := X.1
  have hl : lv_has ls 4 [(0, .ref y), (1, .int a), (2, .int b), (3, .int v)] := hl
  have iX9 := jX9_set_X9
  refine lv_aload_n S.1 S.2.1 dX9_set_0 rfl (lv_at hl 0 rfl) ?_
  refine lv_iconst (v := 0) S.1 S.2.1 dX9_set_1 (by decide) ?_
  refine b_put (v := .int 0) S iX9 tyX9 tyX9_ok nmX9 hK hP hD hS 0 rfl rfl 0 (by decide) (by decide +kernel) rfl rfl rfl (Nat.le_of_ble_eq_true rfl) dX9_set_2 (fun H locs hP hD hS => ?_)
  have hP : va_P D vwCl [(y, .inr (9, [.int 0, .int 0, .ref y_lane, .ref y_many, .ref y_item, .ref y_city, .ref y_fresh, .int 0, .ref y_tape, .int 0, .int 0, .int 0, .int 0, .int 0, .int 0, .int 0, .int 0, .int 0, .int 0, .int 0, .ref y_cost, .ref y_away, .ref y_fee, .ref y_goesTo, .ref y_priceWas, .ref y_isKept, .ref y_kept, .ref y_trace, .int 0]))] H := hP
  have hD : va_D A [(y, .inr (9, [.int 0, .int 0, .ref y_lane, .ref y_many, .ref y_item, .ref y_city, .ref y_fresh, .int 0, .ref y_tape, .int 0, .int 0, .int 0, .int 0, .int 0, .int 0, .int 0, .int 0, .int 0, .int 0, .int 0, .ref y_cost, .ref y_away, .ref y_fee, .ref y_goesTo, .ref y_priceWas, .ref y_isKept, .ref y_kept, .ref y_trace, .int 0]))] := hD
  refine lv_iload_n S.1 S.2.1 dX9_set_5 rfl (lv_at hl 1 rfl) ?_
  refine b_ai (wr := [(y, .inr (9, [.int 0, .int 0, .ref y_lane, .ref y_many, .ref y_item, .ref y_city, .ref y_fresh, .int 0, .ref y_tape, .int 0, .int 0, .int 0, .int 0, .int 0, .int 0, .int 0, .int 0, .int 0, .int 0, .int 0, .ref y_cost, .ref y_away, .ref y_fee, .ref y_goesTo, .ref y_priceWas, .ref y_isKept, .ref y_kept, .ref y_trace, .int 0]))]) (b_runS (As := [.int a]) (c_X9_isSheet_f l D cI cZ cC cS sq H.size a (by assumption)) S gX9_set_X9_isSheet rfl hdS_X9_isSheet ⟨Nat.le_of_ble_eq_true rfl, Nat.le_of_ble_eq_true rfl⟩ ⟨Nat.le_of_ble_eq_true rfl, Nat.le_of_ble_eq_true rfl⟩ hK hP hD [] rfl (by decide) rfl hl.1 rfl (Nat.le_of_ble_eq_true rfl) dX9_set_6) hP hD hS hA [] [0] rfl rfl (by decide) (by decide) (fun r_1 w_2 H locs hw_3 hP hD hS => ?_)
  obtain ⟨rfl, rfl⟩ := hw_3
  have hP : va_P D vwCl [(y, .inr (9, [.int 0, .int 0, .ref y_lane, .ref y_many, .ref y_item, .ref y_city, .ref y_fresh, .int 0, .ref y_tape, .int 0, .int 0, .int 0, .int 0, .int 0, .int 0, .int 0, .int 0, .int 0, .int 0, .int 0, .ref y_cost, .ref y_away, .ref y_fee, .ref y_goesTo, .ref y_priceWas, .ref y_isKept, .ref y_kept, .ref y_trace, .int 0]))] H := hP
  have hD : va_D A [(y, .inr (9, [.int 0, .int 0, .ref y_lane, .ref y_many, .ref y_item, .ref y_city, .ref y_fresh, .int 0, .ref y_tape, .int 0, .int 0, .int 0, .int 0, .int 0, .int 0, .int 0, .int 0, .int 0, .int 0, .int 0, .ref y_cost, .ref y_away, .ref y_fee, .ref y_goesTo, .ref y_priceWas, .ref y_isKept, .ref y_kept, .ref y_trace, .int 0]))] := hD
  refine lv_if_ne (tgt := 15) S.1 S.2.1 dX9_set_9 (by decide) (fun c_4 => absurd c_4 (by decide)) (fun c_4 => ?_)
  refine lv_ldc (v := (-1000001)) S.1 S.2.1 S.2.2.2.1 (S.2.2.2.2 (.constant RX9 73 (-1000001)) (by decide +kernel)) dX9_set_12 ?_
  have hP := hP.sub (ws' := []) [] rfl
  have hD := hD.sub (ws' := []) [] (by decide) rfl
  exact b_iret S.1 S.2.1 X.2.1 X.2.2.1 hP hD hS ⟨rfl, rfl⟩ dX9_set_14
set_option maxHeartbeats 4000000 in
set_option maxRecDepth 100000 in
theorem c_X9_set_ok (l : Launch) (D : va_G) (cI cZ cC cS : ClassId) (sq sz : Nat) (y : Nat) (y_lane : Nat) (y_many : Nat) (y_item : Nat) (y_city : Nat) (y_fresh : Nat) (y_tape : Nat) (y_cost : Nat) (y_away : Nat) (y_fee : Nat) (y_goesTo : Nat) (y_priceWas : Nat) (y_isKept : Nat) (y_kept : Nat) (y_trace : Nat) (a : Int32) (b : Int32) (v : Int32) (la : Nat → Int32) (hr : 0 ≤ a.toInt ∧ a.toInt ≤ 7) (hla : ∀ j, j < 8 → la j = -1) : mI l yX9_set wsX9_set 2 45 D (tyW cI cZ cC cS) sq [(y, .inr (9, [.int 0, .int 0, .ref y_lane, .ref y_many, .ref y_item, .ref y_city, .ref y_fresh, .int 0, .ref y_tape, .int 0, .int 0, .int 0, .int 0, .int 0, .int 0, .int 0, .int 0, .int 0, .int 0, .int 0, .ref y_cost, .ref y_away, .ref y_fee, .ref y_goesTo, .ref y_priceWas, .ref y_isKept, .ref y_kept, .ref y_trace, .int 0])), (y_lane, .inl (cI, 8, .inl la))] sz [.ref y, .int a, .int b, .int v] (fun r w => r = -1000011 ∧ w = []) := by
  refine b_metI (cc := cX9_set) (maxL := 4) (ret := (some .int)) (by decide) rfl (Nat.le_of_ble_eq_true rfl) ?_
  intro p e s m below meth c ls A H X hsz hP hK hD hA hS hl
  have S : CallFix p m c cX9_set 4 s ([.ref y, .int a, .int b, .int v] : List Value).toArray wsX9_set RX9 := X.1
  have hl : lv_has ls 4 [(0, .ref y), (1, .int a), (2, .int b), (3, .int v)] := hl
  have iX9 := jX9_set_X9
  refine lv_aload_n S.1 S.2.1 dX9_set_0 rfl (lv_at hl 0 rfl) ?_
  refine lv_iconst (v := 0) S.1 S.2.1 dX9_set_1 (by decide) ?_
  refine b_put (v := .int 0) S iX9 tyX9 tyX9_ok nmX9 hK hP hD hS 0 rfl rfl 0 (by decide) (by decide +kernel) rfl rfl rfl (Nat.le_of_ble_eq_true rfl) dX9_set_2 (fun H locs hP hD hS => ?_)
  have hP : va_P D vwCl [(y, .inr (9, [.int 0, .int 0, .ref y_lane, .ref y_many, .ref y_item, .ref y_city, .ref y_fresh, .int 0, .ref y_tape, .int 0, .int 0, .int 0, .int 0, .int 0, .int 0, .int 0, .int 0, .int 0, .int 0, .int 0, .ref y_cost, .ref y_away, .ref y_fee, .ref y_goesTo, .ref y_priceWas, .ref y_isKept, .ref y_kept, .ref y_trace, .int 0])), (y_lane, .inl (cI, 8, .inl la))] H := hP
  have hD : va_D A [(y, .inr (9, [.int 0, .int 0, .ref y_lane, .ref y_many, .ref y_item, .ref y_city, .ref y_fresh, .int 0, .ref y_tape, .int 0, .int 0, .int 0, .int 0, .int 0, .int 0, .int 0, .int 0, .int 0, .int 0, .int 0, .ref y_cost, .ref y_away, .ref y_fee, .ref y_goesTo, .ref y_priceWas, .ref y_isKept, .ref y_kept, .ref y_trace, .int 0])), (y_lane, .inl (cI, 8, .inl la))] := hD
  refine lv_iload_n S.1 S.2.1 dX9_set_5 rfl (lv_at hl 1 rfl) ?_
  refine b_ai (wr := [(y, .inr (9, [.int 0, .int 0, .ref y_lane, .ref y_many, .ref y_item, .ref y_city, .ref y_fresh, .int 0, .ref y_tape, .int 0, .int 0, .int 0, .int 0, .int 0, .int 0, .int 0, .int 0, .int 0, .int 0, .int 0, .ref y_cost, .ref y_away, .ref y_fee, .ref y_goesTo, .ref y_priceWas, .ref y_isKept, .ref y_kept, .ref y_trace, .int 0])), (y_lane, .inl (cI, 8, .inl la))]) (b_runS (As := [.int a]) (c_X9_isSheet_t l D cI cZ cC cS sq H.size a (by assumption)) S gX9_set_X9_isSheet rfl hdS_X9_isSheet ⟨Nat.le_of_ble_eq_true rfl, Nat.le_of_ble_eq_true rfl⟩ ⟨Nat.le_of_ble_eq_true rfl, Nat.le_of_ble_eq_true rfl⟩ hK hP hD [] rfl (by decide) rfl hl.1 rfl (Nat.le_of_ble_eq_true rfl) dX9_set_6) hP hD hS hA [] [0, 1] rfl rfl (by decide) (by decide) (fun r_1 w_2 H locs hw_3 hP hD hS => ?_)
  obtain ⟨rfl, rfl⟩ := hw_3
  have hP : va_P D vwCl [(y, .inr (9, [.int 0, .int 0, .ref y_lane, .ref y_many, .ref y_item, .ref y_city, .ref y_fresh, .int 0, .ref y_tape, .int 0, .int 0, .int 0, .int 0, .int 0, .int 0, .int 0, .int 0, .int 0, .int 0, .int 0, .ref y_cost, .ref y_away, .ref y_fee, .ref y_goesTo, .ref y_priceWas, .ref y_isKept, .ref y_kept, .ref y_trace, .int 0])), (y_lane, .inl (cI, 8, .inl la))] H := hP
  have hD : va_D A [(y, .inr (9, [.int 0, .int 0, .ref y_lane, .ref y_many, .ref y_item, .ref y_city, .ref y_fresh, .int 0, .ref y_tape, .int 0, .int 0, .int 0, .int 0, .int 0, .int 0, .int 0, .int 0, .int 0, .int 0, .int 0, .ref y_cost, .ref y_away, .ref y_fee, .ref y_goesTo, .ref y_priceWas, .ref y_isKept, .ref y_kept, .ref y_trace, .int 0])), (y_lane, .inl (cI, 8, .inl la))] := hD
  refine lv_if_ne (tgt := 15) S.1 S.2.1 dX9_set_9 (by decide) (fun c_4 => ?_) (fun c_4 => absurd c_4 (by decide))
  refine lv_aload_n S.1 S.2.1 dX9_set_15 rfl (lv_at hl 0 rfl) ?_
  refine lv_iconst (v := 0) S.1 S.2.1 dX9_set_16 (by decide) ?_
  refine b_put (v := .int 0) S iX9 tyX9 tyX9_ok nmX9 hK hP hD hS 0 rfl rfl 1 (by decide) (by decide +kernel) rfl rfl rfl (Nat.le_of_ble_eq_true rfl) dX9_set_17 (fun H locs hP hD hS => ?_)
  have hP : va_P D vwCl [(y, .inr (9, [.int 0, .int 0, .ref y_lane, .ref y_many, .ref y_item, .ref y_city, .ref y_fresh, .int 0, .ref y_tape, .int 0, .int 0, .int 0, .int 0, .int 0, .int 0, .int 0, .int 0, .int 0, .int 0, .int 0, .ref y_cost, .ref y_away, .ref y_fee, .ref y_goesTo, .ref y_priceWas, .ref y_isKept, .ref y_kept, .ref y_trace, .int 0])), (y_lane, .inl (cI, 8, .inl la))] H := hP
  have hD : va_D A [(y, .inr (9, [.int 0, .int 0, .ref y_lane, .ref y_many, .ref y_item, .ref y_city, .ref y_fresh, .int 0, .ref y_tape, .int 0, .int 0, .int 0, .int 0, .int 0, .int 0, .int 0, .int 0, .int 0, .int 0, .int 0, .ref y_cost, .ref y_away, .ref y_fee, .ref y_goesTo, .ref y_priceWas, .ref y_isKept, .ref y_kept, .ref y_trace, .int 0])), (y_lane, .inl (cI, 8, .inl la))] := hD
  refine lv_aload_n S.1 S.2.1 dX9_set_20 rfl (lv_at hl 0 rfl) ?_
  refine b_get (v := .ref y_lane) S iX9 hK hP 0 rfl rfl 2 (by decide) (by decide +kernel) rfl dX9_set_21 ?_
  refine lv_iload_n S.1 S.2.1 dX9_set_24 rfl (lv_at hl 1 rfl) ?_
  refine va_iald S.1 S.2.1 hK.1 hP 1 0 rfl rfl (in_of (n := 8) (by omega) (by omega)) dX9_set_25 ?_
  refine lv_topi (fun x_5 ex_5 => ?_)
  have ex_5 : x_5 = -1 := by exact ex_5.trans (hla _ (cl8 hr))
  subst ex_5
  refine lv_if_ge (tgt := 35) S.1 S.2.1 dX9_set_26 (by decide) (fun c_6 => absurd c_6 (by decide)) (fun c_6 => ?_)
  refine lv_aload_n S.1 S.2.1 dX9_set_29 rfl (lv_at hl 0 rfl) ?_
  refine lv_iconst (v := 1) S.1 S.2.1 dX9_set_30 (by decide) ?_
  refine b_ai (wr := [(y_lane, .inl (cI, 8, .inl la))]) (b_runV (q0 := 0) (ci := 9) (As := [.int 1]) (c_X9_finding_1 l D cI cZ cC cS sq H.size y y_lane y_many y_item y_city y_fresh y_tape y_cost y_away y_fee y_goesTo y_priceWas y_isKept y_kept y_trace) S gX9_set_X9_finding rfl hdV_X9_finding ⟨Nat.le_of_ble_eq_true rfl, Nat.le_of_ble_eq_true rfl⟩ ⟨Nat.le_of_ble_eq_true rfl, Nat.le_of_ble_eq_true rfl⟩ hK hP hD rfl rfl [0] rfl (by decide) rfl hl.1 rfl (Nat.le_of_ble_eq_true rfl) dX9_set_31) hP hD hS hA [0] [1] rfl rfl (by decide) (by decide) (fun r_7 w_8 H locs hw_9 hP hD hS => ?_)
  obtain ⟨rfl, rfl⟩ := hw_9
  have hP : va_P D vwCl [(y_lane, .inl (cI, 8, .inl la)), (y, .inr (9, [.int 0, .int 1, .ref y_lane, .ref y_many, .ref y_item, .ref y_city, .ref y_fresh, .int 0, .ref y_tape, .int 0, .int 0, .int 0, .int 0, .int 0, .int 0, .int 0, .int 0, .int 0, .int 0, .int 0, .ref y_cost, .ref y_away, .ref y_fee, .ref y_goesTo, .ref y_priceWas, .ref y_isKept, .ref y_kept, .ref y_trace, .int 0]))] H := hP
  have hD : va_D A [(y_lane, .inl (cI, 8, .inl la)), (y, .inr (9, [.int 0, .int 1, .ref y_lane, .ref y_many, .ref y_item, .ref y_city, .ref y_fresh, .int 0, .ref y_tape, .int 0, .int 0, .int 0, .int 0, .int 0, .int 0, .int 0, .int 0, .int 0, .int 0, .int 0, .ref y_cost, .ref y_away, .ref y_fee, .ref y_goesTo, .ref y_priceWas, .ref y_isKept, .ref y_kept, .ref y_trace, .int 0]))] := hD
  have hP := hP.sub (ws' := []) [] rfl
  have hD := hD.sub (ws' := []) [] (by decide) rfl
  exact b_iret S.1 S.2.1 X.2.1 X.2.2.1 hP hD hS ⟨rfl, rfl⟩ dX9_set_34
set_option maxHeartbeats 4000000 in
set_option maxRecDepth 100000 in
theorem c_X9_drop_bad (l : Launch) (D : va_G) (cI cZ cC cS : ClassId) (sq sz : Nat) (y : Nat) (y_lane : Nat) (y_many : Nat) (y_item : Nat) (y_city : Nat) (y_fresh : Nat) (y_tape : Nat) (y_cost : Nat) (y_away : Nat) (y_fee : Nat) (y_goesTo : Nat) (y_priceWas : Nat) (y_isKept : Nat) (y_kept : Nat) (y_trace : Nat) (a : Int32) (hr : a.toInt < 0 ∨ 7 < a.toInt) : mI l yX9_drop wsX9_drop 2 45 D (tyW cI cZ cC cS) sq [(y, .inr (9, [.int 0, .int 0, .ref y_lane, .ref y_many, .ref y_item, .ref y_city, .ref y_fresh, .int 0, .ref y_tape, .int 0, .int 0, .int 0, .int 0, .int 0, .int 0, .int 0, .int 0, .int 0, .int 0, .int 0, .ref y_cost, .ref y_away, .ref y_fee, .ref y_goesTo, .ref y_priceWas, .ref y_isKept, .ref y_kept, .ref y_trace, .int 0]))] sz [.ref y, .int a] (fun r w => r = -1000001 ∧ w = []) := by
  refine b_metI (cc := cX9_drop) (maxL := 2) (ret := (some .int)) (by decide) rfl (Nat.le_of_ble_eq_true rfl) ?_
  intro p e s m below meth c ls A H X hsz hP hK hD hA hS hl
  have S : CallFix p m c cX9_drop 2 s ([.ref y, .int a] : List Value).toArray wsX9_drop RX9 := X.1
  have hl : lv_has ls 2 [(0, .ref y), (1, .int a)] := hl
  have iX9 := jX9_drop_X9
  refine lv_aload_n S.1 S.2.1 dX9_drop_0 rfl (lv_at hl 0 rfl) ?_
  refine lv_iconst (v := 0) S.1 S.2.1 dX9_drop_1 (by decide) ?_
  refine b_put (v := .int 0) S iX9 tyX9 tyX9_ok nmX9 hK hP hD hS 0 rfl rfl 0 (by decide) (by decide +kernel) rfl rfl rfl (Nat.le_of_ble_eq_true rfl) dX9_drop_2 (fun H locs hP hD hS => ?_)
  have hP : va_P D vwCl [(y, .inr (9, [.int 0, .int 0, .ref y_lane, .ref y_many, .ref y_item, .ref y_city, .ref y_fresh, .int 0, .ref y_tape, .int 0, .int 0, .int 0, .int 0, .int 0, .int 0, .int 0, .int 0, .int 0, .int 0, .int 0, .ref y_cost, .ref y_away, .ref y_fee, .ref y_goesTo, .ref y_priceWas, .ref y_isKept, .ref y_kept, .ref y_trace, .int 0]))] H := hP
  have hD : va_D A [(y, .inr (9, [.int 0, .int 0, .ref y_lane, .ref y_many, .ref y_item, .ref y_city, .ref y_fresh, .int 0, .ref y_tape, .int 0, .int 0, .int 0, .int 0, .int 0, .int 0, .int 0, .int 0, .int 0, .int 0, .int 0, .ref y_cost, .ref y_away, .ref y_fee, .ref y_goesTo, .ref y_priceWas, .ref y_isKept, .ref y_kept, .ref y_trace, .int 0]))] := hD
  refine lv_iload_n S.1 S.2.1 dX9_drop_5 rfl (lv_at hl 1 rfl) ?_
  refine b_ai (wr := [(y, .inr (9, [.int 0, .int 0, .ref y_lane, .ref y_many, .ref y_item, .ref y_city, .ref y_fresh, .int 0, .ref y_tape, .int 0, .int 0, .int 0, .int 0, .int 0, .int 0, .int 0, .int 0, .int 0, .int 0, .int 0, .ref y_cost, .ref y_away, .ref y_fee, .ref y_goesTo, .ref y_priceWas, .ref y_isKept, .ref y_kept, .ref y_trace, .int 0]))]) (b_runS (As := [.int a]) (c_X9_isSheet_f l D cI cZ cC cS sq H.size a (by assumption)) S gX9_drop_X9_isSheet rfl hdS_X9_isSheet ⟨Nat.le_of_ble_eq_true rfl, Nat.le_of_ble_eq_true rfl⟩ ⟨Nat.le_of_ble_eq_true rfl, Nat.le_of_ble_eq_true rfl⟩ hK hP hD [] rfl (by decide) rfl hl.1 rfl (Nat.le_of_ble_eq_true rfl) dX9_drop_6) hP hD hS hA [] [0] rfl rfl (by decide) (by decide) (fun r_1 w_2 H locs hw_3 hP hD hS => ?_)
  obtain ⟨rfl, rfl⟩ := hw_3
  have hP : va_P D vwCl [(y, .inr (9, [.int 0, .int 0, .ref y_lane, .ref y_many, .ref y_item, .ref y_city, .ref y_fresh, .int 0, .ref y_tape, .int 0, .int 0, .int 0, .int 0, .int 0, .int 0, .int 0, .int 0, .int 0, .int 0, .int 0, .ref y_cost, .ref y_away, .ref y_fee, .ref y_goesTo, .ref y_priceWas, .ref y_isKept, .ref y_kept, .ref y_trace, .int 0]))] H := hP
  have hD : va_D A [(y, .inr (9, [.int 0, .int 0, .ref y_lane, .ref y_many, .ref y_item, .ref y_city, .ref y_fresh, .int 0, .ref y_tape, .int 0, .int 0, .int 0, .int 0, .int 0, .int 0, .int 0, .int 0, .int 0, .int 0, .int 0, .ref y_cost, .ref y_away, .ref y_fee, .ref y_goesTo, .ref y_priceWas, .ref y_isKept, .ref y_kept, .ref y_trace, .int 0]))] := hD
  refine lv_if_ne (tgt := 15) S.1 S.2.1 dX9_drop_9 (by decide) (fun c_4 => absurd c_4 (by decide)) (fun c_4 => ?_)
  refine lv_ldc (v := (-1000001)) S.1 S.2.1 S.2.2.2.1 (S.2.2.2.2 (.constant RX9 73 (-1000001)) (by decide +kernel)) dX9_drop_12 ?_
  have hP := hP.sub (ws' := []) [] rfl
  have hD := hD.sub (ws' := []) [] (by decide) rfl
  exact b_iret S.1 S.2.1 X.2.1 X.2.2.1 hP hD hS ⟨rfl, rfl⟩ dX9_drop_14
set_option maxHeartbeats 4000000 in
set_option maxRecDepth 100000 in
theorem c_X9_drop_ok (l : Launch) (D : va_G) (cI cZ cC cS : ClassId) (sq sz : Nat) (y : Nat) (y_lane : Nat) (y_many : Nat) (y_item : Nat) (y_city : Nat) (y_fresh : Nat) (y_tape : Nat) (y_cost : Nat) (y_away : Nat) (y_fee : Nat) (y_goesTo : Nat) (y_priceWas : Nat) (y_isKept : Nat) (y_kept : Nat) (y_trace : Nat) (a : Int32) (la : Nat → Int32) (hr : 0 ≤ a.toInt ∧ a.toInt ≤ 7) (hla : ∀ j, j < 8 → la j = -1) : mI l yX9_drop wsX9_drop 2 45 D (tyW cI cZ cC cS) sq [(y, .inr (9, [.int 0, .int 0, .ref y_lane, .ref y_many, .ref y_item, .ref y_city, .ref y_fresh, .int 0, .ref y_tape, .int 0, .int 0, .int 0, .int 0, .int 0, .int 0, .int 0, .int 0, .int 0, .int 0, .int 0, .ref y_cost, .ref y_away, .ref y_fee, .ref y_goesTo, .ref y_priceWas, .ref y_isKept, .ref y_kept, .ref y_trace, .int 0])), (y_lane, .inl (cI, 8, .inl la))] sz [.ref y, .int a] (fun r w => r = -1000011 ∧ w = []) := by
  refine b_metI (cc := cX9_drop) (maxL := 2) (ret := (some .int)) (by decide) rfl (Nat.le_of_ble_eq_true rfl) ?_
  intro p e s m below meth c ls A H X hsz hP hK hD hA hS hl
  have S : CallFix p m c cX9_drop 2 s ([.ref y, .int a] : List Value).toArray wsX9_drop RX9 := X.1
  have hl : lv_has ls 2 [(0, .ref y), (1, .int a)] := hl
  have iX9 := jX9_drop_X9
  refine lv_aload_n S.1 S.2.1 dX9_drop_0 rfl (lv_at hl 0 rfl) ?_
  refine lv_iconst (v := 0) S.1 S.2.1 dX9_drop_1 (by decide) ?_
  refine b_put (v := .int 0) S iX9 tyX9 tyX9_ok nmX9 hK hP hD hS 0 rfl rfl 0 (by decide) (by decide +kernel) rfl rfl rfl (Nat.le_of_ble_eq_true rfl) dX9_drop_2 (fun H locs hP hD hS => ?_)
  have hP : va_P D vwCl [(y, .inr (9, [.int 0, .int 0, .ref y_lane, .ref y_many, .ref y_item, .ref y_city, .ref y_fresh, .int 0, .ref y_tape, .int 0, .int 0, .int 0, .int 0, .int 0, .int 0, .int 0, .int 0, .int 0, .int 0, .int 0, .ref y_cost, .ref y_away, .ref y_fee, .ref y_goesTo, .ref y_priceWas, .ref y_isKept, .ref y_kept, .ref y_trace, .int 0])), (y_lane, .inl (cI, 8, .inl la))] H := hP
  have hD : va_D A [(y, .inr (9, [.int 0, .int 0, .ref y_lane, .ref y_many, .ref y_item, .ref y_city, .ref y_fresh, .int 0, .ref y_tape, .int 0, .int 0, .int 0, .int 0, .int 0, .int 0, .int 0, .int 0, .int 0, .int 0, .int 0, .ref y_cost, .ref y_away, .ref y_fee, .ref y_goesTo, .ref y_priceWas, .ref y_isKept, .ref y_kept, .ref y_trace, .int 0])), (y_lane, .inl (cI, 8, .inl la))] := hD
  refine lv_iload_n S.1 S.2.1 dX9_drop_5 rfl (lv_at hl 1 rfl) ?_
  refine b_ai (wr := [(y, .inr (9, [.int 0, .int 0, .ref y_lane, .ref y_many, .ref y_item, .ref y_city, .ref y_fresh, .int 0, .ref y_tape, .int 0, .int 0, .int 0, .int 0, .int 0, .int 0, .int 0, .int 0, .int 0, .int 0, .int 0, .ref y_cost, .ref y_away, .ref y_fee, .ref y_goesTo, .ref y_priceWas, .ref y_isKept, .ref y_kept, .ref y_trace, .int 0])), (y_lane, .inl (cI, 8, .inl la))]) (b_runS (As := [.int a]) (c_X9_isSheet_t l D cI cZ cC cS sq H.size a (by assumption)) S gX9_drop_X9_isSheet rfl hdS_X9_isSheet ⟨Nat.le_of_ble_eq_true rfl, Nat.le_of_ble_eq_true rfl⟩ ⟨Nat.le_of_ble_eq_true rfl, Nat.le_of_ble_eq_true rfl⟩ hK hP hD [] rfl (by decide) rfl hl.1 rfl (Nat.le_of_ble_eq_true rfl) dX9_drop_6) hP hD hS hA [] [0, 1] rfl rfl (by decide) (by decide) (fun r_1 w_2 H locs hw_3 hP hD hS => ?_)
  obtain ⟨rfl, rfl⟩ := hw_3
  have hP : va_P D vwCl [(y, .inr (9, [.int 0, .int 0, .ref y_lane, .ref y_many, .ref y_item, .ref y_city, .ref y_fresh, .int 0, .ref y_tape, .int 0, .int 0, .int 0, .int 0, .int 0, .int 0, .int 0, .int 0, .int 0, .int 0, .int 0, .ref y_cost, .ref y_away, .ref y_fee, .ref y_goesTo, .ref y_priceWas, .ref y_isKept, .ref y_kept, .ref y_trace, .int 0])), (y_lane, .inl (cI, 8, .inl la))] H := hP
  have hD : va_D A [(y, .inr (9, [.int 0, .int 0, .ref y_lane, .ref y_many, .ref y_item, .ref y_city, .ref y_fresh, .int 0, .ref y_tape, .int 0, .int 0, .int 0, .int 0, .int 0, .int 0, .int 0, .int 0, .int 0, .int 0, .int 0, .ref y_cost, .ref y_away, .ref y_fee, .ref y_goesTo, .ref y_priceWas, .ref y_isKept, .ref y_kept, .ref y_trace, .int 0])), (y_lane, .inl (cI, 8, .inl la))] := hD
  refine lv_if_ne (tgt := 15) S.1 S.2.1 dX9_drop_9 (by decide) (fun c_4 => ?_) (fun c_4 => absurd c_4 (by decide))
  refine lv_aload_n S.1 S.2.1 dX9_drop_15 rfl (lv_at hl 0 rfl) ?_
  refine lv_iconst (v := 0) S.1 S.2.1 dX9_drop_16 (by decide) ?_
  refine b_put (v := .int 0) S iX9 tyX9 tyX9_ok nmX9 hK hP hD hS 0 rfl rfl 1 (by decide) (by decide +kernel) rfl rfl rfl (Nat.le_of_ble_eq_true rfl) dX9_drop_17 (fun H locs hP hD hS => ?_)
  have hP : va_P D vwCl [(y, .inr (9, [.int 0, .int 0, .ref y_lane, .ref y_many, .ref y_item, .ref y_city, .ref y_fresh, .int 0, .ref y_tape, .int 0, .int 0, .int 0, .int 0, .int 0, .int 0, .int 0, .int 0, .int 0, .int 0, .int 0, .ref y_cost, .ref y_away, .ref y_fee, .ref y_goesTo, .ref y_priceWas, .ref y_isKept, .ref y_kept, .ref y_trace, .int 0])), (y_lane, .inl (cI, 8, .inl la))] H := hP
  have hD : va_D A [(y, .inr (9, [.int 0, .int 0, .ref y_lane, .ref y_many, .ref y_item, .ref y_city, .ref y_fresh, .int 0, .ref y_tape, .int 0, .int 0, .int 0, .int 0, .int 0, .int 0, .int 0, .int 0, .int 0, .int 0, .int 0, .ref y_cost, .ref y_away, .ref y_fee, .ref y_goesTo, .ref y_priceWas, .ref y_isKept, .ref y_kept, .ref y_trace, .int 0])), (y_lane, .inl (cI, 8, .inl la))] := hD
  refine lv_aload_n S.1 S.2.1 dX9_drop_20 rfl (lv_at hl 0 rfl) ?_
  refine b_get (v := .ref y_lane) S iX9 hK hP 0 rfl rfl 2 (by decide) (by decide +kernel) rfl dX9_drop_21 ?_
  refine lv_iload_n S.1 S.2.1 dX9_drop_24 rfl (lv_at hl 1 rfl) ?_
  refine va_iald S.1 S.2.1 hK.1 hP 1 0 rfl rfl (in_of (n := 8) (by omega) (by omega)) dX9_drop_25 ?_
  refine lv_topi (fun x_5 ex_5 => ?_)
  have ex_5 : x_5 = -1 := by exact ex_5.trans (hla _ (cl8 hr))
  subst ex_5
  refine lv_if_ge (tgt := 35) S.1 S.2.1 dX9_drop_26 (by decide) (fun c_6 => absurd c_6 (by decide)) (fun c_6 => ?_)
  refine lv_aload_n S.1 S.2.1 dX9_drop_29 rfl (lv_at hl 0 rfl) ?_
  refine lv_iconst (v := 1) S.1 S.2.1 dX9_drop_30 (by decide) ?_
  refine b_ai (wr := [(y_lane, .inl (cI, 8, .inl la))]) (b_runV (q0 := 0) (ci := 9) (As := [.int 1]) (c_X9_finding_1 l D cI cZ cC cS sq H.size y y_lane y_many y_item y_city y_fresh y_tape y_cost y_away y_fee y_goesTo y_priceWas y_isKept y_kept y_trace) S gX9_drop_X9_finding rfl hdV_X9_finding ⟨Nat.le_of_ble_eq_true rfl, Nat.le_of_ble_eq_true rfl⟩ ⟨Nat.le_of_ble_eq_true rfl, Nat.le_of_ble_eq_true rfl⟩ hK hP hD rfl rfl [0] rfl (by decide) rfl hl.1 rfl (Nat.le_of_ble_eq_true rfl) dX9_drop_31) hP hD hS hA [0] [1] rfl rfl (by decide) (by decide) (fun r_7 w_8 H locs hw_9 hP hD hS => ?_)
  obtain ⟨rfl, rfl⟩ := hw_9
  have hP : va_P D vwCl [(y_lane, .inl (cI, 8, .inl la)), (y, .inr (9, [.int 0, .int 1, .ref y_lane, .ref y_many, .ref y_item, .ref y_city, .ref y_fresh, .int 0, .ref y_tape, .int 0, .int 0, .int 0, .int 0, .int 0, .int 0, .int 0, .int 0, .int 0, .int 0, .int 0, .ref y_cost, .ref y_away, .ref y_fee, .ref y_goesTo, .ref y_priceWas, .ref y_isKept, .ref y_kept, .ref y_trace, .int 0]))] H := hP
  have hD : va_D A [(y_lane, .inl (cI, 8, .inl la)), (y, .inr (9, [.int 0, .int 1, .ref y_lane, .ref y_many, .ref y_item, .ref y_city, .ref y_fresh, .int 0, .ref y_tape, .int 0, .int 0, .int 0, .int 0, .int 0, .int 0, .int 0, .int 0, .int 0, .int 0, .int 0, .ref y_cost, .ref y_away, .ref y_fee, .ref y_goesTo, .ref y_priceWas, .ref y_isKept, .ref y_kept, .ref y_trace, .int 0]))] := hD
  have hP := hP.sub (ws' := []) [] rfl
  have hD := hD.sub (ws' := []) [] (by decide) rfl
  exact b_iret S.1 S.2.1 X.2.1 X.2.2.1 hP hD hS ⟨rfl, rfl⟩ dX9_drop_34
set_option maxHeartbeats 4000000 in
set_option maxRecDepth 100000 in
theorem c_X9_copy_a (l : Launch) (D : va_G) (cI cZ cC cS : ClassId) (sq sz : Nat) (y : Nat) (y_lane : Nat) (y_many : Nat) (y_item : Nat) (y_city : Nat) (y_fresh : Nat) (y_tape : Nat) (y_cost : Nat) (y_away : Nat) (y_fee : Nat) (y_goesTo : Nat) (y_priceWas : Nat) (y_isKept : Nat) (y_kept : Nat) (y_trace : Nat) (a : Int32) (i : Int32) (b : Int32) (j : Int32) (n : Int32) (hr : a.toInt < 0 ∨ 7 < a.toInt) : mI l yX9_copy wsX9_copy 2 45 D (tyW cI cZ cC cS) sq [(y, .inr (9, [.int 0, .int 0, .ref y_lane, .ref y_many, .ref y_item, .ref y_city, .ref y_fresh, .int 0, .ref y_tape, .int 0, .int 0, .int 0, .int 0, .int 0, .int 0, .int 0, .int 0, .int 0, .int 0, .int 0, .ref y_cost, .ref y_away, .ref y_fee, .ref y_goesTo, .ref y_priceWas, .ref y_isKept, .ref y_kept, .ref y_trace, .int 0]))] sz [.ref y, .int a, .int i, .int b, .int j, .int n] (fun r w => r = -1000001 ∧ w = []) := by
  refine b_metI (cc := cX9_copy) (maxL := 9) (ret := (some .int)) (by decide) rfl (Nat.le_of_ble_eq_true rfl) ?_
  intro p e s m below meth c ls A H X hsz hP hK hD hA hS hl
  have S : CallFix p m c cX9_copy 9 s ([.ref y, .int a, .int i, .int b, .int j, .int n] : List Value).toArray wsX9_copy RX9 := X.1
  have hl : lv_has ls 9 [(0, .ref y), (1, .int a), (2, .int i), (3, .int b), (4, .int j), (5, .int n)] := hl
  have iX9 := jX9_copy_X9
  refine lv_aload_n S.1 S.2.1 dX9_copy_0 rfl (lv_at hl 0 rfl) ?_
  refine lv_iconst (v := 0) S.1 S.2.1 dX9_copy_1 (by decide) ?_
  refine b_put (v := .int 0) S iX9 tyX9 tyX9_ok nmX9 hK hP hD hS 0 rfl rfl 0 (by decide) (by decide +kernel) rfl rfl rfl (Nat.le_of_ble_eq_true rfl) dX9_copy_2 (fun H locs hP hD hS => ?_)
  have hP : va_P D vwCl [(y, .inr (9, [.int 0, .int 0, .ref y_lane, .ref y_many, .ref y_item, .ref y_city, .ref y_fresh, .int 0, .ref y_tape, .int 0, .int 0, .int 0, .int 0, .int 0, .int 0, .int 0, .int 0, .int 0, .int 0, .int 0, .ref y_cost, .ref y_away, .ref y_fee, .ref y_goesTo, .ref y_priceWas, .ref y_isKept, .ref y_kept, .ref y_trace, .int 0]))] H := hP
  have hD : va_D A [(y, .inr (9, [.int 0, .int 0, .ref y_lane, .ref y_many, .ref y_item, .ref y_city, .ref y_fresh, .int 0, .ref y_tape, .int 0, .int 0, .int 0, .int 0, .int 0, .int 0, .int 0, .int 0, .int 0, .int 0, .int 0, .ref y_cost, .ref y_away, .ref y_fee, .ref y_goesTo, .ref y_priceWas, .ref y_isKept, .ref y_kept, .ref y_trace, .int 0]))] := hD
  refine lv_iload_n S.1 S.2.1 dX9_copy_5 rfl (lv_at hl 1 rfl) ?_
  refine b_ai (wr := [(y, .inr (9, [.int 0, .int 0, .ref y_lane, .ref y_many, .ref y_item, .ref y_city, .ref y_fresh, .int 0, .ref y_tape, .int 0, .int 0, .int 0, .int 0, .int 0, .int 0, .int 0, .int 0, .int 0, .int 0, .int 0, .ref y_cost, .ref y_away, .ref y_fee, .ref y_goesTo, .ref y_priceWas, .ref y_isKept, .ref y_kept, .ref y_trace, .int 0]))]) (b_runS (As := [.int a]) (c_X9_isSheet_f l D cI cZ cC cS sq H.size a (by assumption)) S gX9_copy_X9_isSheet rfl hdS_X9_isSheet ⟨Nat.le_of_ble_eq_true rfl, Nat.le_of_ble_eq_true rfl⟩ ⟨Nat.le_of_ble_eq_true rfl, Nat.le_of_ble_eq_true rfl⟩ hK hP hD [] rfl (by decide) rfl hl.1 rfl (Nat.le_of_ble_eq_true rfl) dX9_copy_6) hP hD hS hA [] [0] rfl rfl (by decide) (by decide) (fun r_1 w_2 H locs hw_3 hP hD hS => ?_)
  obtain ⟨rfl, rfl⟩ := hw_3
  have hP : va_P D vwCl [(y, .inr (9, [.int 0, .int 0, .ref y_lane, .ref y_many, .ref y_item, .ref y_city, .ref y_fresh, .int 0, .ref y_tape, .int 0, .int 0, .int 0, .int 0, .int 0, .int 0, .int 0, .int 0, .int 0, .int 0, .int 0, .ref y_cost, .ref y_away, .ref y_fee, .ref y_goesTo, .ref y_priceWas, .ref y_isKept, .ref y_kept, .ref y_trace, .int 0]))] H := hP
  have hD : va_D A [(y, .inr (9, [.int 0, .int 0, .ref y_lane, .ref y_many, .ref y_item, .ref y_city, .ref y_fresh, .int 0, .ref y_tape, .int 0, .int 0, .int 0, .int 0, .int 0, .int 0, .int 0, .int 0, .int 0, .int 0, .int 0, .ref y_cost, .ref y_away, .ref y_fee, .ref y_goesTo, .ref y_priceWas, .ref y_isKept, .ref y_kept, .ref y_trace, .int 0]))] := hD
  refine lv_if_eq (tgt := 19) S.1 S.2.1 dX9_copy_9 (by decide) (fun c_4 => ?_) (fun c_4 => absurd c_4 (by decide))
  refine lv_ldc (v := (-1000001)) S.1 S.2.1 S.2.2.2.1 (S.2.2.2.2 (.constant RX9 73 (-1000001)) (by decide +kernel)) dX9_copy_19 ?_
  have hP := hP.sub (ws' := []) [] rfl
  have hD := hD.sub (ws' := []) [] (by decide) rfl
  exact b_iret S.1 S.2.1 X.2.1 X.2.2.1 hP hD hS ⟨rfl, rfl⟩ dX9_copy_21
set_option maxHeartbeats 4000000 in
set_option maxRecDepth 100000 in
theorem c_X9_copy_b (l : Launch) (D : va_G) (cI cZ cC cS : ClassId) (sq sz : Nat) (y : Nat) (y_lane : Nat) (y_many : Nat) (y_item : Nat) (y_city : Nat) (y_fresh : Nat) (y_tape : Nat) (y_cost : Nat) (y_away : Nat) (y_fee : Nat) (y_goesTo : Nat) (y_priceWas : Nat) (y_isKept : Nat) (y_kept : Nat) (y_trace : Nat) (a : Int32) (i : Int32) (b : Int32) (j : Int32) (n : Int32) (hr : 0 ≤ a.toInt ∧ a.toInt ≤ 7) (hb : b.toInt < 0 ∨ 7 < b.toInt) : mI l yX9_copy wsX9_copy 2 45 D (tyW cI cZ cC cS) sq [(y, .inr (9, [.int 0, .int 0, .ref y_lane, .ref y_many, .ref y_item, .ref y_city, .ref y_fresh, .int 0, .ref y_tape, .int 0, .int 0, .int 0, .int 0, .int 0, .int 0, .int 0, .int 0, .int 0, .int 0, .int 0, .ref y_cost, .ref y_away, .ref y_fee, .ref y_goesTo, .ref y_priceWas, .ref y_isKept, .ref y_kept, .ref y_trace, .int 0]))] sz [.ref y, .int a, .int i, .int b, .int j, .int n] (fun r w => r = -1000001 ∧ w = []) := by
  refine b_metI (cc := cX9_copy) (maxL := 9) (ret := (some .int)) (by decide) rfl (Nat.le_of_ble_eq_true rfl) ?_
  intro p e s m below meth c ls A H X hsz hP hK hD hA hS hl
  have S : CallFix p m c cX9_copy 9 s ([.ref y, .int a, .int i, .int b, .int j, .int n] : List Value).toArray wsX9_copy RX9 := X.1
  have hl : lv_has ls 9 [(0, .ref y), (1, .int a), (2, .int i), (3, .int b), (4, .int j), (5, .int n)] := hl
  have iX9 := jX9_copy_X9
  refine lv_aload_n S.1 S.2.1 dX9_copy_0 rfl (lv_at hl 0 rfl) ?_
  refine lv_iconst (v := 0) S.1 S.2.1 dX9_copy_1 (by decide) ?_
  refine b_put (v := .int 0) S iX9 tyX9 tyX9_ok nmX9 hK hP hD hS 0 rfl rfl 0 (by decide) (by decide +kernel) rfl rfl rfl (Nat.le_of_ble_eq_true rfl) dX9_copy_2 (fun H locs hP hD hS => ?_)
  have hP : va_P D vwCl [(y, .inr (9, [.int 0, .int 0, .ref y_lane, .ref y_many, .ref y_item, .ref y_city, .ref y_fresh, .int 0, .ref y_tape, .int 0, .int 0, .int 0, .int 0, .int 0, .int 0, .int 0, .int 0, .int 0, .int 0, .int 0, .ref y_cost, .ref y_away, .ref y_fee, .ref y_goesTo, .ref y_priceWas, .ref y_isKept, .ref y_kept, .ref y_trace, .int 0]))] H := hP
  have hD : va_D A [(y, .inr (9, [.int 0, .int 0, .ref y_lane, .ref y_many, .ref y_item, .ref y_city, .ref y_fresh, .int 0, .ref y_tape, .int 0, .int 0, .int 0, .int 0, .int 0, .int 0, .int 0, .int 0, .int 0, .int 0, .int 0, .ref y_cost, .ref y_away, .ref y_fee, .ref y_goesTo, .ref y_priceWas, .ref y_isKept, .ref y_kept, .ref y_trace, .int 0]))] := hD
  refine lv_iload_n S.1 S.2.1 dX9_copy_5 rfl (lv_at hl 1 rfl) ?_
  refine b_ai (wr := [(y, .inr (9, [.int 0, .int 0, .ref y_lane, .ref y_many, .ref y_item, .ref y_city, .ref y_fresh, .int 0, .ref y_tape, .int 0, .int 0, .int 0, .int 0, .int 0, .int 0, .int 0, .int 0, .int 0, .int 0, .int 0, .ref y_cost, .ref y_away, .ref y_fee, .ref y_goesTo, .ref y_priceWas, .ref y_isKept, .ref y_kept, .ref y_trace, .int 0]))]) (b_runS (As := [.int a]) (c_X9_isSheet_t l D cI cZ cC cS sq H.size a (by assumption)) S gX9_copy_X9_isSheet rfl hdS_X9_isSheet ⟨Nat.le_of_ble_eq_true rfl, Nat.le_of_ble_eq_true rfl⟩ ⟨Nat.le_of_ble_eq_true rfl, Nat.le_of_ble_eq_true rfl⟩ hK hP hD [] rfl (by decide) rfl hl.1 rfl (Nat.le_of_ble_eq_true rfl) dX9_copy_6) hP hD hS hA [] [0] rfl rfl (by decide) (by decide) (fun r_1 w_2 H locs hw_3 hP hD hS => ?_)
  obtain ⟨rfl, rfl⟩ := hw_3
  have hP : va_P D vwCl [(y, .inr (9, [.int 0, .int 0, .ref y_lane, .ref y_many, .ref y_item, .ref y_city, .ref y_fresh, .int 0, .ref y_tape, .int 0, .int 0, .int 0, .int 0, .int 0, .int 0, .int 0, .int 0, .int 0, .int 0, .int 0, .ref y_cost, .ref y_away, .ref y_fee, .ref y_goesTo, .ref y_priceWas, .ref y_isKept, .ref y_kept, .ref y_trace, .int 0]))] H := hP
  have hD : va_D A [(y, .inr (9, [.int 0, .int 0, .ref y_lane, .ref y_many, .ref y_item, .ref y_city, .ref y_fresh, .int 0, .ref y_tape, .int 0, .int 0, .int 0, .int 0, .int 0, .int 0, .int 0, .int 0, .int 0, .int 0, .int 0, .ref y_cost, .ref y_away, .ref y_fee, .ref y_goesTo, .ref y_priceWas, .ref y_isKept, .ref y_kept, .ref y_trace, .int 0]))] := hD
  refine lv_if_eq (tgt := 19) S.1 S.2.1 dX9_copy_9 (by decide) (fun c_4 => absurd c_4 (by decide)) (fun c_4 => ?_)
  refine lv_iload_n S.1 S.2.1 dX9_copy_12 rfl (lv_at hl 3 rfl) ?_
  refine b_ai (wr := [(y, .inr (9, [.int 0, .int 0, .ref y_lane, .ref y_many, .ref y_item, .ref y_city, .ref y_fresh, .int 0, .ref y_tape, .int 0, .int 0, .int 0, .int 0, .int 0, .int 0, .int 0, .int 0, .int 0, .int 0, .int 0, .ref y_cost, .ref y_away, .ref y_fee, .ref y_goesTo, .ref y_priceWas, .ref y_isKept, .ref y_kept, .ref y_trace, .int 0]))]) (b_runS (As := [.int b]) (c_X9_isSheet_f l D cI cZ cC cS sq H.size b hb) S gX9_copy_X9_isSheet rfl hdS_X9_isSheet ⟨Nat.le_of_ble_eq_true rfl, Nat.le_of_ble_eq_true rfl⟩ ⟨Nat.le_of_ble_eq_true rfl, Nat.le_of_ble_eq_true rfl⟩ hK hP hD [] rfl (by decide) rfl hl.1 rfl (Nat.le_of_ble_eq_true rfl) dX9_copy_13) hP hD hS hA [] [0] rfl rfl (by decide) (by decide) (fun r_5 w_6 H locs hw_7 hP hD hS => ?_)
  obtain ⟨rfl, rfl⟩ := hw_7
  have hP : va_P D vwCl [(y, .inr (9, [.int 0, .int 0, .ref y_lane, .ref y_many, .ref y_item, .ref y_city, .ref y_fresh, .int 0, .ref y_tape, .int 0, .int 0, .int 0, .int 0, .int 0, .int 0, .int 0, .int 0, .int 0, .int 0, .int 0, .ref y_cost, .ref y_away, .ref y_fee, .ref y_goesTo, .ref y_priceWas, .ref y_isKept, .ref y_kept, .ref y_trace, .int 0]))] H := hP
  have hD : va_D A [(y, .inr (9, [.int 0, .int 0, .ref y_lane, .ref y_many, .ref y_item, .ref y_city, .ref y_fresh, .int 0, .ref y_tape, .int 0, .int 0, .int 0, .int 0, .int 0, .int 0, .int 0, .int 0, .int 0, .int 0, .int 0, .ref y_cost, .ref y_away, .ref y_fee, .ref y_goesTo, .ref y_priceWas, .ref y_isKept, .ref y_kept, .ref y_trace, .int 0]))] := hD
  refine lv_if_ne (tgt := 22) S.1 S.2.1 dX9_copy_16 (by decide) (fun c_8 => absurd c_8 (by decide)) (fun c_8 => ?_)
  refine lv_ldc (v := (-1000001)) S.1 S.2.1 S.2.2.2.1 (S.2.2.2.2 (.constant RX9 73 (-1000001)) (by decide +kernel)) dX9_copy_19 ?_
  have hP := hP.sub (ws' := []) [] rfl
  have hD := hD.sub (ws' := []) [] (by decide) rfl
  exact b_iret S.1 S.2.1 X.2.1 X.2.2.1 hP hD hS ⟨rfl, rfl⟩ dX9_copy_21
set_option maxHeartbeats 4000000 in
set_option maxRecDepth 100000 in
theorem c_X9_copy_ok (l : Launch) (D : va_G) (cI cZ cC cS : ClassId) (sq sz : Nat) (y : Nat) (y_lane : Nat) (y_many : Nat) (y_item : Nat) (y_city : Nat) (y_fresh : Nat) (y_tape : Nat) (y_cost : Nat) (y_away : Nat) (y_fee : Nat) (y_goesTo : Nat) (y_priceWas : Nat) (y_isKept : Nat) (y_kept : Nat) (y_trace : Nat) (a : Int32) (i : Int32) (b : Int32) (j : Int32) (n : Int32) (la : Nat → Int32) (hr : 0 ≤ a.toInt ∧ a.toInt ≤ 7) (hb : 0 ≤ b.toInt ∧ b.toInt ≤ 7) (hla : ∀ j, j < 8 → la j = -1) : mI l yX9_copy wsX9_copy 2 45 D (tyW cI cZ cC cS) sq [(y, .inr (9, [.int 0, .int 0, .ref y_lane, .ref y_many, .ref y_item, .ref y_city, .ref y_fresh, .int 0, .ref y_tape, .int 0, .int 0, .int 0, .int 0, .int 0, .int 0, .int 0, .int 0, .int 0, .int 0, .int 0, .ref y_cost, .ref y_away, .ref y_fee, .ref y_goesTo, .ref y_priceWas, .ref y_isKept, .ref y_kept, .ref y_trace, .int 0])), (y_lane, .inl (cI, 8, .inl la))] sz [.ref y, .int a, .int i, .int b, .int j, .int n] (fun r w => r = -1000011 ∧ w = []) := by
  refine b_metI (cc := cX9_copy) (maxL := 9) (ret := (some .int)) (by decide) rfl (Nat.le_of_ble_eq_true rfl) ?_
  intro p e s m below meth c ls A H X hsz hP hK hD hA hS hl
  have S : CallFix p m c cX9_copy 9 s ([.ref y, .int a, .int i, .int b, .int j, .int n] : List Value).toArray wsX9_copy RX9 := X.1
  have hl : lv_has ls 9 [(0, .ref y), (1, .int a), (2, .int i), (3, .int b), (4, .int j), (5, .int n)] := hl
  have iX9 := jX9_copy_X9
  refine lv_aload_n S.1 S.2.1 dX9_copy_0 rfl (lv_at hl 0 rfl) ?_
  refine lv_iconst (v := 0) S.1 S.2.1 dX9_copy_1 (by decide) ?_
  refine b_put (v := .int 0) S iX9 tyX9 tyX9_ok nmX9 hK hP hD hS 0 rfl rfl 0 (by decide) (by decide +kernel) rfl rfl rfl (Nat.le_of_ble_eq_true rfl) dX9_copy_2 (fun H locs hP hD hS => ?_)
  have hP : va_P D vwCl [(y, .inr (9, [.int 0, .int 0, .ref y_lane, .ref y_many, .ref y_item, .ref y_city, .ref y_fresh, .int 0, .ref y_tape, .int 0, .int 0, .int 0, .int 0, .int 0, .int 0, .int 0, .int 0, .int 0, .int 0, .int 0, .ref y_cost, .ref y_away, .ref y_fee, .ref y_goesTo, .ref y_priceWas, .ref y_isKept, .ref y_kept, .ref y_trace, .int 0])), (y_lane, .inl (cI, 8, .inl la))] H := hP
  have hD : va_D A [(y, .inr (9, [.int 0, .int 0, .ref y_lane, .ref y_many, .ref y_item, .ref y_city, .ref y_fresh, .int 0, .ref y_tape, .int 0, .int 0, .int 0, .int 0, .int 0, .int 0, .int 0, .int 0, .int 0, .int 0, .int 0, .ref y_cost, .ref y_away, .ref y_fee, .ref y_goesTo, .ref y_priceWas, .ref y_isKept, .ref y_kept, .ref y_trace, .int 0])), (y_lane, .inl (cI, 8, .inl la))] := hD
  refine lv_iload_n S.1 S.2.1 dX9_copy_5 rfl (lv_at hl 1 rfl) ?_
  refine b_ai (wr := [(y, .inr (9, [.int 0, .int 0, .ref y_lane, .ref y_many, .ref y_item, .ref y_city, .ref y_fresh, .int 0, .ref y_tape, .int 0, .int 0, .int 0, .int 0, .int 0, .int 0, .int 0, .int 0, .int 0, .int 0, .int 0, .ref y_cost, .ref y_away, .ref y_fee, .ref y_goesTo, .ref y_priceWas, .ref y_isKept, .ref y_kept, .ref y_trace, .int 0])), (y_lane, .inl (cI, 8, .inl la))]) (b_runS (As := [.int a]) (c_X9_isSheet_t l D cI cZ cC cS sq H.size a (by assumption)) S gX9_copy_X9_isSheet rfl hdS_X9_isSheet ⟨Nat.le_of_ble_eq_true rfl, Nat.le_of_ble_eq_true rfl⟩ ⟨Nat.le_of_ble_eq_true rfl, Nat.le_of_ble_eq_true rfl⟩ hK hP hD [] rfl (by decide) rfl hl.1 rfl (Nat.le_of_ble_eq_true rfl) dX9_copy_6) hP hD hS hA [] [0, 1] rfl rfl (by decide) (by decide) (fun r_1 w_2 H locs hw_3 hP hD hS => ?_)
  obtain ⟨rfl, rfl⟩ := hw_3
  have hP : va_P D vwCl [(y, .inr (9, [.int 0, .int 0, .ref y_lane, .ref y_many, .ref y_item, .ref y_city, .ref y_fresh, .int 0, .ref y_tape, .int 0, .int 0, .int 0, .int 0, .int 0, .int 0, .int 0, .int 0, .int 0, .int 0, .int 0, .ref y_cost, .ref y_away, .ref y_fee, .ref y_goesTo, .ref y_priceWas, .ref y_isKept, .ref y_kept, .ref y_trace, .int 0])), (y_lane, .inl (cI, 8, .inl la))] H := hP
  have hD : va_D A [(y, .inr (9, [.int 0, .int 0, .ref y_lane, .ref y_many, .ref y_item, .ref y_city, .ref y_fresh, .int 0, .ref y_tape, .int 0, .int 0, .int 0, .int 0, .int 0, .int 0, .int 0, .int 0, .int 0, .int 0, .int 0, .ref y_cost, .ref y_away, .ref y_fee, .ref y_goesTo, .ref y_priceWas, .ref y_isKept, .ref y_kept, .ref y_trace, .int 0])), (y_lane, .inl (cI, 8, .inl la))] := hD
  refine lv_if_eq (tgt := 19) S.1 S.2.1 dX9_copy_9 (by decide) (fun c_4 => absurd c_4 (by decide)) (fun c_4 => ?_)
  refine lv_iload_n S.1 S.2.1 dX9_copy_12 rfl (lv_at hl 3 rfl) ?_
  refine b_ai (wr := [(y, .inr (9, [.int 0, .int 0, .ref y_lane, .ref y_many, .ref y_item, .ref y_city, .ref y_fresh, .int 0, .ref y_tape, .int 0, .int 0, .int 0, .int 0, .int 0, .int 0, .int 0, .int 0, .int 0, .int 0, .int 0, .ref y_cost, .ref y_away, .ref y_fee, .ref y_goesTo, .ref y_priceWas, .ref y_isKept, .ref y_kept, .ref y_trace, .int 0])), (y_lane, .inl (cI, 8, .inl la))]) (b_runS (As := [.int b]) (c_X9_isSheet_t l D cI cZ cC cS sq H.size b hb) S gX9_copy_X9_isSheet rfl hdS_X9_isSheet ⟨Nat.le_of_ble_eq_true rfl, Nat.le_of_ble_eq_true rfl⟩ ⟨Nat.le_of_ble_eq_true rfl, Nat.le_of_ble_eq_true rfl⟩ hK hP hD [] rfl (by decide) rfl hl.1 rfl (Nat.le_of_ble_eq_true rfl) dX9_copy_13) hP hD hS hA [] [0, 1] rfl rfl (by decide) (by decide) (fun r_5 w_6 H locs hw_7 hP hD hS => ?_)
  obtain ⟨rfl, rfl⟩ := hw_7
  have hP : va_P D vwCl [(y, .inr (9, [.int 0, .int 0, .ref y_lane, .ref y_many, .ref y_item, .ref y_city, .ref y_fresh, .int 0, .ref y_tape, .int 0, .int 0, .int 0, .int 0, .int 0, .int 0, .int 0, .int 0, .int 0, .int 0, .int 0, .ref y_cost, .ref y_away, .ref y_fee, .ref y_goesTo, .ref y_priceWas, .ref y_isKept, .ref y_kept, .ref y_trace, .int 0])), (y_lane, .inl (cI, 8, .inl la))] H := hP
  have hD : va_D A [(y, .inr (9, [.int 0, .int 0, .ref y_lane, .ref y_many, .ref y_item, .ref y_city, .ref y_fresh, .int 0, .ref y_tape, .int 0, .int 0, .int 0, .int 0, .int 0, .int 0, .int 0, .int 0, .int 0, .int 0, .int 0, .ref y_cost, .ref y_away, .ref y_fee, .ref y_goesTo, .ref y_priceWas, .ref y_isKept, .ref y_kept, .ref y_trace, .int 0])), (y_lane, .inl (cI, 8, .inl la))] := hD
  refine lv_if_ne (tgt := 22) S.1 S.2.1 dX9_copy_16 (by decide) (fun c_8 => ?_) (fun c_8 => absurd c_8 (by decide))
  refine lv_aload_n S.1 S.2.1 dX9_copy_22 rfl (lv_at hl 0 rfl) ?_
  refine lv_iconst (v := 0) S.1 S.2.1 dX9_copy_23 (by decide) ?_
  refine b_put (v := .int 0) S iX9 tyX9 tyX9_ok nmX9 hK hP hD hS 0 rfl rfl 1 (by decide) (by decide +kernel) rfl rfl rfl (Nat.le_of_ble_eq_true rfl) dX9_copy_24 (fun H locs hP hD hS => ?_)
  have hP : va_P D vwCl [(y, .inr (9, [.int 0, .int 0, .ref y_lane, .ref y_many, .ref y_item, .ref y_city, .ref y_fresh, .int 0, .ref y_tape, .int 0, .int 0, .int 0, .int 0, .int 0, .int 0, .int 0, .int 0, .int 0, .int 0, .int 0, .ref y_cost, .ref y_away, .ref y_fee, .ref y_goesTo, .ref y_priceWas, .ref y_isKept, .ref y_kept, .ref y_trace, .int 0])), (y_lane, .inl (cI, 8, .inl la))] H := hP
  have hD : va_D A [(y, .inr (9, [.int 0, .int 0, .ref y_lane, .ref y_many, .ref y_item, .ref y_city, .ref y_fresh, .int 0, .ref y_tape, .int 0, .int 0, .int 0, .int 0, .int 0, .int 0, .int 0, .int 0, .int 0, .int 0, .int 0, .ref y_cost, .ref y_away, .ref y_fee, .ref y_goesTo, .ref y_priceWas, .ref y_isKept, .ref y_kept, .ref y_trace, .int 0])), (y_lane, .inl (cI, 8, .inl la))] := hD
  refine lv_aload_n S.1 S.2.1 dX9_copy_27 rfl (lv_at hl 0 rfl) ?_
  refine b_get (v := .ref y_lane) S iX9 hK hP 0 rfl rfl 2 (by decide) (by decide +kernel) rfl dX9_copy_28 ?_
  refine lv_iload_n S.1 S.2.1 dX9_copy_31 rfl (lv_at hl 1 rfl) ?_
  refine va_iald S.1 S.2.1 hK.1 hP 1 0 rfl rfl (in_of (n := 8) (by omega) (by omega)) dX9_copy_32 ?_
  refine lv_topi (fun x_9 ex_9 => ?_)
  have ex_9 : x_9 = -1 := by exact ex_9.trans (hla _ (cl8 hr))
  subst ex_9
  refine lv_if_lt (tgt := 45) S.1 S.2.1 dX9_copy_33 (by decide) (fun c_10 => ?_) (fun c_10 => absurd c_10 (by decide))
  refine lv_aload_n S.1 S.2.1 dX9_copy_45 rfl (lv_at hl 0 rfl) ?_
  refine lv_iconst (v := 1) S.1 S.2.1 dX9_copy_46 (by decide) ?_
  refine b_ai (wr := [(y_lane, .inl (cI, 8, .inl la))]) (b_runV (q0 := 0) (ci := 9) (As := [.int 1]) (c_X9_finding_1 l D cI cZ cC cS sq H.size y y_lane y_many y_item y_city y_fresh y_tape y_cost y_away y_fee y_goesTo y_priceWas y_isKept y_kept y_trace) S gX9_copy_X9_finding rfl hdV_X9_finding ⟨Nat.le_of_ble_eq_true rfl, Nat.le_of_ble_eq_true rfl⟩ ⟨Nat.le_of_ble_eq_true rfl, Nat.le_of_ble_eq_true rfl⟩ hK hP hD rfl rfl [0] rfl (by decide) rfl hl.1 rfl (Nat.le_of_ble_eq_true rfl) dX9_copy_47) hP hD hS hA [0] [1] rfl rfl (by decide) (by decide) (fun r_11 w_12 H locs hw_13 hP hD hS => ?_)
  obtain ⟨rfl, rfl⟩ := hw_13
  have hP : va_P D vwCl [(y_lane, .inl (cI, 8, .inl la)), (y, .inr (9, [.int 0, .int 1, .ref y_lane, .ref y_many, .ref y_item, .ref y_city, .ref y_fresh, .int 0, .ref y_tape, .int 0, .int 0, .int 0, .int 0, .int 0, .int 0, .int 0, .int 0, .int 0, .int 0, .int 0, .ref y_cost, .ref y_away, .ref y_fee, .ref y_goesTo, .ref y_priceWas, .ref y_isKept, .ref y_kept, .ref y_trace, .int 0]))] H := hP
  have hD : va_D A [(y_lane, .inl (cI, 8, .inl la)), (y, .inr (9, [.int 0, .int 1, .ref y_lane, .ref y_many, .ref y_item, .ref y_city, .ref y_fresh, .int 0, .ref y_tape, .int 0, .int 0, .int 0, .int 0, .int 0, .int 0, .int 0, .int 0, .int 0, .int 0, .int 0, .ref y_cost, .ref y_away, .ref y_fee, .ref y_goesTo, .ref y_priceWas, .ref y_isKept, .ref y_kept, .ref y_trace, .int 0]))] := hD
  have hP := hP.sub (ws' := []) [] rfl
  have hD := hD.sub (ws' := []) [] (by decide) rfl
  exact b_iret S.1 S.2.1 X.2.1 X.2.2.1 hP hD hS ⟨rfl, rfl⟩ dX9_copy_50
set_option maxHeartbeats 4000000 in
set_option maxRecDepth 100000 in
theorem c_X9_sheet_a (l : Launch) (D : va_G) (cI cZ cC cS : ClassId) (sq sz : Nat) (y : Nat) (y_lane : Nat) (y_many : Nat) (y_item : Nat) (y_city : Nat) (y_fresh : Nat) (y_tape : Nat) (y_cost : Nat) (y_away : Nat) (y_fee : Nat) (y_goesTo : Nat) (y_priceWas : Nat) (y_isKept : Nat) (y_kept : Nat) (y_trace : Nat) (a : Int32) (b : Int32) (n : Int32) (hr : a.toInt < 0 ∨ 7 < a.toInt) : mI l yX9_sheet wsX9_sheet 2 45 D (tyW cI cZ cC cS) sq [(y, .inr (9, [.int 0, .int 0, .ref y_lane, .ref y_many, .ref y_item, .ref y_city, .ref y_fresh, .int 0, .ref y_tape, .int 0, .int 0, .int 0, .int 0, .int 0, .int 0, .int 0, .int 0, .int 0, .int 0, .int 0, .ref y_cost, .ref y_away, .ref y_fee, .ref y_goesTo, .ref y_priceWas, .ref y_isKept, .ref y_kept, .ref y_trace, .int 0]))] sz [.ref y, .int a, .int b, .int n] (fun r w => r = -1000001 ∧ w = []) := by
  refine b_metI (cc := cX9_sheet) (maxL := 5) (ret := (some .int)) (by decide) rfl (Nat.le_of_ble_eq_true rfl) ?_
  intro p e s m below meth c ls A H X hsz hP hK hD hA hS hl
  have S : CallFix p m c cX9_sheet 5 s ([.ref y, .int a, .int b, .int n] : List Value).toArray wsX9_sheet RX9 := X.1
  have hl : lv_has ls 5 [(0, .ref y), (1, .int a), (2, .int b), (3, .int n)] := hl
  have iX9 := jX9_sheet_X9
  refine lv_aload_n S.1 S.2.1 dX9_sheet_0 rfl (lv_at hl 0 rfl) ?_
  refine lv_iconst (v := 0) S.1 S.2.1 dX9_sheet_1 (by decide) ?_
  refine b_put (v := .int 0) S iX9 tyX9 tyX9_ok nmX9 hK hP hD hS 0 rfl rfl 0 (by decide) (by decide +kernel) rfl rfl rfl (Nat.le_of_ble_eq_true rfl) dX9_sheet_2 (fun H locs hP hD hS => ?_)
  have hP : va_P D vwCl [(y, .inr (9, [.int 0, .int 0, .ref y_lane, .ref y_many, .ref y_item, .ref y_city, .ref y_fresh, .int 0, .ref y_tape, .int 0, .int 0, .int 0, .int 0, .int 0, .int 0, .int 0, .int 0, .int 0, .int 0, .int 0, .ref y_cost, .ref y_away, .ref y_fee, .ref y_goesTo, .ref y_priceWas, .ref y_isKept, .ref y_kept, .ref y_trace, .int 0]))] H := hP
  have hD : va_D A [(y, .inr (9, [.int 0, .int 0, .ref y_lane, .ref y_many, .ref y_item, .ref y_city, .ref y_fresh, .int 0, .ref y_tape, .int 0, .int 0, .int 0, .int 0, .int 0, .int 0, .int 0, .int 0, .int 0, .int 0, .int 0, .ref y_cost, .ref y_away, .ref y_fee, .ref y_goesTo, .ref y_priceWas, .ref y_isKept, .ref y_kept, .ref y_trace, .int 0]))] := hD
  refine lv_iload_n S.1 S.2.1 dX9_sheet_5 rfl (lv_at hl 1 rfl) ?_
  refine b_ai (wr := [(y, .inr (9, [.int 0, .int 0, .ref y_lane, .ref y_many, .ref y_item, .ref y_city, .ref y_fresh, .int 0, .ref y_tape, .int 0, .int 0, .int 0, .int 0, .int 0, .int 0, .int 0, .int 0, .int 0, .int 0, .int 0, .ref y_cost, .ref y_away, .ref y_fee, .ref y_goesTo, .ref y_priceWas, .ref y_isKept, .ref y_kept, .ref y_trace, .int 0]))]) (b_runS (As := [.int a]) (c_X9_isSheet_f l D cI cZ cC cS sq H.size a (by assumption)) S gX9_sheet_X9_isSheet rfl hdS_X9_isSheet ⟨Nat.le_of_ble_eq_true rfl, Nat.le_of_ble_eq_true rfl⟩ ⟨Nat.le_of_ble_eq_true rfl, Nat.le_of_ble_eq_true rfl⟩ hK hP hD [] rfl (by decide) rfl hl.1 rfl (Nat.le_of_ble_eq_true rfl) dX9_sheet_6) hP hD hS hA [] [0] rfl rfl (by decide) (by decide) (fun r_1 w_2 H locs hw_3 hP hD hS => ?_)
  obtain ⟨rfl, rfl⟩ := hw_3
  have hP : va_P D vwCl [(y, .inr (9, [.int 0, .int 0, .ref y_lane, .ref y_many, .ref y_item, .ref y_city, .ref y_fresh, .int 0, .ref y_tape, .int 0, .int 0, .int 0, .int 0, .int 0, .int 0, .int 0, .int 0, .int 0, .int 0, .int 0, .ref y_cost, .ref y_away, .ref y_fee, .ref y_goesTo, .ref y_priceWas, .ref y_isKept, .ref y_kept, .ref y_trace, .int 0]))] H := hP
  have hD : va_D A [(y, .inr (9, [.int 0, .int 0, .ref y_lane, .ref y_many, .ref y_item, .ref y_city, .ref y_fresh, .int 0, .ref y_tape, .int 0, .int 0, .int 0, .int 0, .int 0, .int 0, .int 0, .int 0, .int 0, .int 0, .int 0, .ref y_cost, .ref y_away, .ref y_fee, .ref y_goesTo, .ref y_priceWas, .ref y_isKept, .ref y_kept, .ref y_trace, .int 0]))] := hD
  refine lv_if_eq (tgt := 30) S.1 S.2.1 dX9_sheet_9 (by decide) (fun c_4 => ?_) (fun c_4 => absurd c_4 (by decide))
  refine lv_ldc (v := (-1000001)) S.1 S.2.1 S.2.2.2.1 (S.2.2.2.2 (.constant RX9 73 (-1000001)) (by decide +kernel)) dX9_sheet_30 ?_
  have hP := hP.sub (ws' := []) [] rfl
  have hD := hD.sub (ws' := []) [] (by decide) rfl
  exact b_iret S.1 S.2.1 X.2.1 X.2.2.1 hP hD hS ⟨rfl, rfl⟩ dX9_sheet_32
set_option maxHeartbeats 4000000 in
set_option maxRecDepth 100000 in
theorem c_X9_sheet_b (l : Launch) (D : va_G) (cI cZ cC cS : ClassId) (sq sz : Nat) (y : Nat) (y_lane : Nat) (y_many : Nat) (y_item : Nat) (y_city : Nat) (y_fresh : Nat) (y_tape : Nat) (y_cost : Nat) (y_away : Nat) (y_fee : Nat) (y_goesTo : Nat) (y_priceWas : Nat) (y_isKept : Nat) (y_kept : Nat) (y_trace : Nat) (a : Int32) (b : Int32) (n : Int32) (hr : 0 ≤ a.toInt ∧ a.toInt ≤ 7) (hl2 : b.toInt < 0 ∨ 2 < b.toInt) : mI l yX9_sheet wsX9_sheet 2 45 D (tyW cI cZ cC cS) sq [(y, .inr (9, [.int 0, .int 0, .ref y_lane, .ref y_many, .ref y_item, .ref y_city, .ref y_fresh, .int 0, .ref y_tape, .int 0, .int 0, .int 0, .int 0, .int 0, .int 0, .int 0, .int 0, .int 0, .int 0, .int 0, .ref y_cost, .ref y_away, .ref y_fee, .ref y_goesTo, .ref y_priceWas, .ref y_isKept, .ref y_kept, .ref y_trace, .int 0]))] sz [.ref y, .int a, .int b, .int n] (fun r w => r = -1000001 ∧ w = []) := by
  refine b_metI (cc := cX9_sheet) (maxL := 5) (ret := (some .int)) (by decide) rfl (Nat.le_of_ble_eq_true rfl) ?_
  intro p e s m below meth c ls A H X hsz hP hK hD hA hS hl
  have S : CallFix p m c cX9_sheet 5 s ([.ref y, .int a, .int b, .int n] : List Value).toArray wsX9_sheet RX9 := X.1
  have hl : lv_has ls 5 [(0, .ref y), (1, .int a), (2, .int b), (3, .int n)] := hl
  have iX9 := jX9_sheet_X9
  refine lv_aload_n S.1 S.2.1 dX9_sheet_0 rfl (lv_at hl 0 rfl) ?_
  refine lv_iconst (v := 0) S.1 S.2.1 dX9_sheet_1 (by decide) ?_
  refine b_put (v := .int 0) S iX9 tyX9 tyX9_ok nmX9 hK hP hD hS 0 rfl rfl 0 (by decide) (by decide +kernel) rfl rfl rfl (Nat.le_of_ble_eq_true rfl) dX9_sheet_2 (fun H locs hP hD hS => ?_)
  have hP : va_P D vwCl [(y, .inr (9, [.int 0, .int 0, .ref y_lane, .ref y_many, .ref y_item, .ref y_city, .ref y_fresh, .int 0, .ref y_tape, .int 0, .int 0, .int 0, .int 0, .int 0, .int 0, .int 0, .int 0, .int 0, .int 0, .int 0, .ref y_cost, .ref y_away, .ref y_fee, .ref y_goesTo, .ref y_priceWas, .ref y_isKept, .ref y_kept, .ref y_trace, .int 0]))] H := hP
  have hD : va_D A [(y, .inr (9, [.int 0, .int 0, .ref y_lane, .ref y_many, .ref y_item, .ref y_city, .ref y_fresh, .int 0, .ref y_tape, .int 0, .int 0, .int 0, .int 0, .int 0, .int 0, .int 0, .int 0, .int 0, .int 0, .int 0, .ref y_cost, .ref y_away, .ref y_fee, .ref y_goesTo, .ref y_priceWas, .ref y_isKept, .ref y_kept, .ref y_trace, .int 0]))] := hD
  refine lv_iload_n S.1 S.2.1 dX9_sheet_5 rfl (lv_at hl 1 rfl) ?_
  refine b_ai (wr := [(y, .inr (9, [.int 0, .int 0, .ref y_lane, .ref y_many, .ref y_item, .ref y_city, .ref y_fresh, .int 0, .ref y_tape, .int 0, .int 0, .int 0, .int 0, .int 0, .int 0, .int 0, .int 0, .int 0, .int 0, .int 0, .ref y_cost, .ref y_away, .ref y_fee, .ref y_goesTo, .ref y_priceWas, .ref y_isKept, .ref y_kept, .ref y_trace, .int 0]))]) (b_runS (As := [.int a]) (c_X9_isSheet_t l D cI cZ cC cS sq H.size a (by assumption)) S gX9_sheet_X9_isSheet rfl hdS_X9_isSheet ⟨Nat.le_of_ble_eq_true rfl, Nat.le_of_ble_eq_true rfl⟩ ⟨Nat.le_of_ble_eq_true rfl, Nat.le_of_ble_eq_true rfl⟩ hK hP hD [] rfl (by decide) rfl hl.1 rfl (Nat.le_of_ble_eq_true rfl) dX9_sheet_6) hP hD hS hA [] [0] rfl rfl (by decide) (by decide) (fun r_1 w_2 H locs hw_3 hP hD hS => ?_)
  obtain ⟨rfl, rfl⟩ := hw_3
  have hP : va_P D vwCl [(y, .inr (9, [.int 0, .int 0, .ref y_lane, .ref y_many, .ref y_item, .ref y_city, .ref y_fresh, .int 0, .ref y_tape, .int 0, .int 0, .int 0, .int 0, .int 0, .int 0, .int 0, .int 0, .int 0, .int 0, .int 0, .ref y_cost, .ref y_away, .ref y_fee, .ref y_goesTo, .ref y_priceWas, .ref y_isKept, .ref y_kept, .ref y_trace, .int 0]))] H := hP
  have hD : va_D A [(y, .inr (9, [.int 0, .int 0, .ref y_lane, .ref y_many, .ref y_item, .ref y_city, .ref y_fresh, .int 0, .ref y_tape, .int 0, .int 0, .int 0, .int 0, .int 0, .int 0, .int 0, .int 0, .int 0, .int 0, .int 0, .ref y_cost, .ref y_away, .ref y_fee, .ref y_goesTo, .ref y_priceWas, .ref y_isKept, .ref y_kept, .ref y_trace, .int 0]))] := hD
  refine lv_if_eq (tgt := 30) S.1 S.2.1 dX9_sheet_9 (by decide) (fun c_4 => absurd c_4 (by decide)) (fun c_4 => ?_)
  refine lv_iload_n S.1 S.2.1 dX9_sheet_12 rfl (lv_at hl 2 rfl) ?_
  refine lv_i2l (v := b.toInt64) S.1 S.2.1 dX9_sheet_13 rfl ?_
  refine lv_lconst (v := 0) S.1 S.2.1 dX9_sheet_14 (by decide) ?_
  refine lv_ldc2 (v := (2)) S.1 S.2.1 S.2.2.2.1 (S.2.2.2.2 (.constantLong RX9 71 (2)) (by decide +kernel)) dX9_sheet_15 ?_
  refine b_ai (wr := [(y, .inr (9, [.int 0, .int 0, .ref y_lane, .ref y_many, .ref y_item, .ref y_city, .ref y_fresh, .int 0, .ref y_tape, .int 0, .int 0, .int 0, .int 0, .int 0, .int 0, .int 0, .int 0, .int 0, .int 0, .int 0, .ref y_cost, .ref y_away, .ref y_fee, .ref y_goesTo, .ref y_priceWas, .ref y_isKept, .ref y_kept, .ref y_trace, .int 0]))]) (b_runS (As := [.long (b.toInt64), .long 0, .long 2]) (c_X9_in_f l D cI cZ cC cS sq H.size (b.toInt64) 0 2 (fun z => by rw [l_lt (N := 0) rfl] at z; rw [l_gt (N := 2) rfl]; omega)) S gX9_sheet_X9_in rfl hdS_X9_in ⟨Nat.le_of_ble_eq_true rfl, Nat.le_of_ble_eq_true rfl⟩ ⟨Nat.le_of_ble_eq_true rfl, Nat.le_of_ble_eq_true rfl⟩ hK hP hD [] rfl (by decide) rfl hl.1 rfl (Nat.le_of_ble_eq_true rfl) dX9_sheet_18) hP hD hS hA [] [0] rfl rfl (by decide) (by decide) (fun r_5 w_6 H locs hw_7 hP hD hS => ?_)
  obtain ⟨rfl, rfl⟩ := hw_7
  have hP : va_P D vwCl [(y, .inr (9, [.int 0, .int 0, .ref y_lane, .ref y_many, .ref y_item, .ref y_city, .ref y_fresh, .int 0, .ref y_tape, .int 0, .int 0, .int 0, .int 0, .int 0, .int 0, .int 0, .int 0, .int 0, .int 0, .int 0, .ref y_cost, .ref y_away, .ref y_fee, .ref y_goesTo, .ref y_priceWas, .ref y_isKept, .ref y_kept, .ref y_trace, .int 0]))] H := hP
  have hD : va_D A [(y, .inr (9, [.int 0, .int 0, .ref y_lane, .ref y_many, .ref y_item, .ref y_city, .ref y_fresh, .int 0, .ref y_tape, .int 0, .int 0, .int 0, .int 0, .int 0, .int 0, .int 0, .int 0, .int 0, .int 0, .int 0, .ref y_cost, .ref y_away, .ref y_fee, .ref y_goesTo, .ref y_priceWas, .ref y_isKept, .ref y_kept, .ref y_trace, .int 0]))] := hD
  refine lv_if_eq (tgt := 30) S.1 S.2.1 dX9_sheet_21 (by decide) (fun c_8 => ?_) (fun c_8 => absurd c_8 (by decide))
  refine lv_ldc (v := (-1000001)) S.1 S.2.1 S.2.2.2.1 (S.2.2.2.2 (.constant RX9 73 (-1000001)) (by decide +kernel)) dX9_sheet_30 ?_
  have hP := hP.sub (ws' := []) [] rfl
  have hD := hD.sub (ws' := []) [] (by decide) rfl
  exact b_iret S.1 S.2.1 X.2.1 X.2.2.1 hP hD hS ⟨rfl, rfl⟩ dX9_sheet_32
set_option maxHeartbeats 4000000 in
set_option maxRecDepth 100000 in
theorem c_X9_sheet_n (l : Launch) (D : va_G) (cI cZ cC cS : ClassId) (sq sz : Nat) (y : Nat) (y_lane : Nat) (y_many : Nat) (y_item : Nat) (y_city : Nat) (y_fresh : Nat) (y_tape : Nat) (y_cost : Nat) (y_away : Nat) (y_fee : Nat) (y_goesTo : Nat) (y_priceWas : Nat) (y_isKept : Nat) (y_kept : Nat) (y_trace : Nat) (a : Int32) (b : Int32) (n : Int32) (hr : 0 ≤ a.toInt ∧ a.toInt ≤ 7) (hl2 : 0 ≤ b.toInt ∧ b.toInt ≤ 2) (hn : 40 < n.toInt) : mI l yX9_sheet wsX9_sheet 2 45 D (tyW cI cZ cC cS) sq [(y, .inr (9, [.int 0, .int 0, .ref y_lane, .ref y_many, .ref y_item, .ref y_city, .ref y_fresh, .int 0, .ref y_tape, .int 0, .int 0, .int 0, .int 0, .int 0, .int 0, .int 0, .int 0, .int 0, .int 0, .int 0, .ref y_cost, .ref y_away, .ref y_fee, .ref y_goesTo, .ref y_priceWas, .ref y_isKept, .ref y_kept, .ref y_trace, .int 0]))] sz [.ref y, .int a, .int b, .int n] (fun r w => r = -1000001 ∧ w = []) := by
  refine b_metI (cc := cX9_sheet) (maxL := 5) (ret := (some .int)) (by decide) rfl (Nat.le_of_ble_eq_true rfl) ?_
  intro p e s m below meth c ls A H X hsz hP hK hD hA hS hl
  have S : CallFix p m c cX9_sheet 5 s ([.ref y, .int a, .int b, .int n] : List Value).toArray wsX9_sheet RX9 := X.1
  have hl : lv_has ls 5 [(0, .ref y), (1, .int a), (2, .int b), (3, .int n)] := hl
  have iX9 := jX9_sheet_X9
  refine lv_aload_n S.1 S.2.1 dX9_sheet_0 rfl (lv_at hl 0 rfl) ?_
  refine lv_iconst (v := 0) S.1 S.2.1 dX9_sheet_1 (by decide) ?_
  refine b_put (v := .int 0) S iX9 tyX9 tyX9_ok nmX9 hK hP hD hS 0 rfl rfl 0 (by decide) (by decide +kernel) rfl rfl rfl (Nat.le_of_ble_eq_true rfl) dX9_sheet_2 (fun H locs hP hD hS => ?_)
  have hP : va_P D vwCl [(y, .inr (9, [.int 0, .int 0, .ref y_lane, .ref y_many, .ref y_item, .ref y_city, .ref y_fresh, .int 0, .ref y_tape, .int 0, .int 0, .int 0, .int 0, .int 0, .int 0, .int 0, .int 0, .int 0, .int 0, .int 0, .ref y_cost, .ref y_away, .ref y_fee, .ref y_goesTo, .ref y_priceWas, .ref y_isKept, .ref y_kept, .ref y_trace, .int 0]))] H := hP
  have hD : va_D A [(y, .inr (9, [.int 0, .int 0, .ref y_lane, .ref y_many, .ref y_item, .ref y_city, .ref y_fresh, .int 0, .ref y_tape, .int 0, .int 0, .int 0, .int 0, .int 0, .int 0, .int 0, .int 0, .int 0, .int 0, .int 0, .ref y_cost, .ref y_away, .ref y_fee, .ref y_goesTo, .ref y_priceWas, .ref y_isKept, .ref y_kept, .ref y_trace, .int 0]))] := hD
  refine lv_iload_n S.1 S.2.1 dX9_sheet_5 rfl (lv_at hl 1 rfl) ?_
  refine b_ai (wr := [(y, .inr (9, [.int 0, .int 0, .ref y_lane, .ref y_many, .ref y_item, .ref y_city, .ref y_fresh, .int 0, .ref y_tape, .int 0, .int 0, .int 0, .int 0, .int 0, .int 0, .int 0, .int 0, .int 0, .int 0, .int 0, .ref y_cost, .ref y_away, .ref y_fee, .ref y_goesTo, .ref y_priceWas, .ref y_isKept, .ref y_kept, .ref y_trace, .int 0]))]) (b_runS (As := [.int a]) (c_X9_isSheet_t l D cI cZ cC cS sq H.size a (by assumption)) S gX9_sheet_X9_isSheet rfl hdS_X9_isSheet ⟨Nat.le_of_ble_eq_true rfl, Nat.le_of_ble_eq_true rfl⟩ ⟨Nat.le_of_ble_eq_true rfl, Nat.le_of_ble_eq_true rfl⟩ hK hP hD [] rfl (by decide) rfl hl.1 rfl (Nat.le_of_ble_eq_true rfl) dX9_sheet_6) hP hD hS hA [] [0] rfl rfl (by decide) (by decide) (fun r_1 w_2 H locs hw_3 hP hD hS => ?_)
  obtain ⟨rfl, rfl⟩ := hw_3
  have hP : va_P D vwCl [(y, .inr (9, [.int 0, .int 0, .ref y_lane, .ref y_many, .ref y_item, .ref y_city, .ref y_fresh, .int 0, .ref y_tape, .int 0, .int 0, .int 0, .int 0, .int 0, .int 0, .int 0, .int 0, .int 0, .int 0, .int 0, .ref y_cost, .ref y_away, .ref y_fee, .ref y_goesTo, .ref y_priceWas, .ref y_isKept, .ref y_kept, .ref y_trace, .int 0]))] H := hP
  have hD : va_D A [(y, .inr (9, [.int 0, .int 0, .ref y_lane, .ref y_many, .ref y_item, .ref y_city, .ref y_fresh, .int 0, .ref y_tape, .int 0, .int 0, .int 0, .int 0, .int 0, .int 0, .int 0, .int 0, .int 0, .int 0, .int 0, .ref y_cost, .ref y_away, .ref y_fee, .ref y_goesTo, .ref y_priceWas, .ref y_isKept, .ref y_kept, .ref y_trace, .int 0]))] := hD
  refine lv_if_eq (tgt := 30) S.1 S.2.1 dX9_sheet_9 (by decide) (fun c_4 => absurd c_4 (by decide)) (fun c_4 => ?_)
  refine lv_iload_n S.1 S.2.1 dX9_sheet_12 rfl (lv_at hl 2 rfl) ?_
  refine lv_i2l (v := b.toInt64) S.1 S.2.1 dX9_sheet_13 rfl ?_
  refine lv_lconst (v := 0) S.1 S.2.1 dX9_sheet_14 (by decide) ?_
  refine lv_ldc2 (v := (2)) S.1 S.2.1 S.2.2.2.1 (S.2.2.2.2 (.constantLong RX9 71 (2)) (by decide +kernel)) dX9_sheet_15 ?_
  refine b_ai (wr := [(y, .inr (9, [.int 0, .int 0, .ref y_lane, .ref y_many, .ref y_item, .ref y_city, .ref y_fresh, .int 0, .ref y_tape, .int 0, .int 0, .int 0, .int 0, .int 0, .int 0, .int 0, .int 0, .int 0, .int 0, .int 0, .ref y_cost, .ref y_away, .ref y_fee, .ref y_goesTo, .ref y_priceWas, .ref y_isKept, .ref y_kept, .ref y_trace, .int 0]))]) (b_runS (As := [.long (b.toInt64), .long 0, .long 2]) (c_X9_in_t l D cI cZ cC cS sq H.size (b.toInt64) 0 2 (by rw [l_lt (N := 0) rfl]; omega) (by rw [l_gt (N := 2) rfl]; omega)) S gX9_sheet_X9_in rfl hdS_X9_in ⟨Nat.le_of_ble_eq_true rfl, Nat.le_of_ble_eq_true rfl⟩ ⟨Nat.le_of_ble_eq_true rfl, Nat.le_of_ble_eq_true rfl⟩ hK hP hD [] rfl (by decide) rfl hl.1 rfl (Nat.le_of_ble_eq_true rfl) dX9_sheet_18) hP hD hS hA [] [0] rfl rfl (by decide) (by decide) (fun r_5 w_6 H locs hw_7 hP hD hS => ?_)
  obtain ⟨rfl, rfl⟩ := hw_7
  have hP : va_P D vwCl [(y, .inr (9, [.int 0, .int 0, .ref y_lane, .ref y_many, .ref y_item, .ref y_city, .ref y_fresh, .int 0, .ref y_tape, .int 0, .int 0, .int 0, .int 0, .int 0, .int 0, .int 0, .int 0, .int 0, .int 0, .int 0, .ref y_cost, .ref y_away, .ref y_fee, .ref y_goesTo, .ref y_priceWas, .ref y_isKept, .ref y_kept, .ref y_trace, .int 0]))] H := hP
  have hD : va_D A [(y, .inr (9, [.int 0, .int 0, .ref y_lane, .ref y_many, .ref y_item, .ref y_city, .ref y_fresh, .int 0, .ref y_tape, .int 0, .int 0, .int 0, .int 0, .int 0, .int 0, .int 0, .int 0, .int 0, .int 0, .int 0, .ref y_cost, .ref y_away, .ref y_fee, .ref y_goesTo, .ref y_priceWas, .ref y_isKept, .ref y_kept, .ref y_trace, .int 0]))] := hD
  refine lv_if_eq (tgt := 30) S.1 S.2.1 dX9_sheet_21 (by decide) (fun c_8 => absurd c_8 (by decide)) (fun c_8 => ?_)
  refine lv_iload_n S.1 S.2.1 dX9_sheet_24 rfl (lv_at hl 3 rfl) ?_
  refine lv_bipush (v := 40) S.1 S.2.1 dX9_sheet_25 (by decide) ?_
  refine lv_icmp_le (tgt := 33) S.1 S.2.1 dX9_sheet_27 (by decide) (fun c_9 => (by exfalso; have z := c_9; rw [c_le (N := 40) rfl] at z; omega)) (fun c_9 => ?_)
  refine lv_ldc (v := (-1000001)) S.1 S.2.1 S.2.2.2.1 (S.2.2.2.2 (.constant RX9 73 (-1000001)) (by decide +kernel)) dX9_sheet_30 ?_
  have hP := hP.sub (ws' := []) [] rfl
  have hD := hD.sub (ws' := []) [] (by decide) rfl
  exact b_iret S.1 S.2.1 X.2.1 X.2.2.1 hP hD hS ⟨rfl, rfl⟩ dX9_sheet_32
set_option maxHeartbeats 4000000 in
set_option maxRecDepth 100000 in
theorem c_X9_sheet_m (l : Launch) (D : va_G) (cI cZ cC cS : ClassId) (sq sz : Nat) (y : Nat) (y_lane : Nat) (y_many : Nat) (y_item : Nat) (y_city : Nat) (y_fresh : Nat) (y_tape : Nat) (y_cost : Nat) (y_away : Nat) (y_fee : Nat) (y_goesTo : Nat) (y_priceWas : Nat) (y_isKept : Nat) (y_kept : Nat) (y_trace : Nat) (a : Int32) (b : Int32) (n : Int32) (hr : 0 ≤ a.toInt ∧ a.toInt ≤ 7) (hl2 : 0 ≤ b.toInt ∧ b.toInt ≤ 2) (hn : n.toInt < 0) : mI l yX9_sheet wsX9_sheet 2 45 D (tyW cI cZ cC cS) sq [(y, .inr (9, [.int 0, .int 0, .ref y_lane, .ref y_many, .ref y_item, .ref y_city, .ref y_fresh, .int 0, .ref y_tape, .int 0, .int 0, .int 0, .int 0, .int 0, .int 0, .int 0, .int 0, .int 0, .int 0, .int 0, .ref y_cost, .ref y_away, .ref y_fee, .ref y_goesTo, .ref y_priceWas, .ref y_isKept, .ref y_kept, .ref y_trace, .int 0]))] sz [.ref y, .int a, .int b, .int n] (fun r w => r = -1000014 ∧ w = []) := by
  refine b_metI (cc := cX9_sheet) (maxL := 5) (ret := (some .int)) (by decide) rfl (Nat.le_of_ble_eq_true rfl) ?_
  intro p e s m below meth c ls A H X hsz hP hK hD hA hS hl
  have S : CallFix p m c cX9_sheet 5 s ([.ref y, .int a, .int b, .int n] : List Value).toArray wsX9_sheet RX9 := X.1
  have hl : lv_has ls 5 [(0, .ref y), (1, .int a), (2, .int b), (3, .int n)] := hl
  have iX9 := jX9_sheet_X9
  refine lv_aload_n S.1 S.2.1 dX9_sheet_0 rfl (lv_at hl 0 rfl) ?_
  refine lv_iconst (v := 0) S.1 S.2.1 dX9_sheet_1 (by decide) ?_
  refine b_put (v := .int 0) S iX9 tyX9 tyX9_ok nmX9 hK hP hD hS 0 rfl rfl 0 (by decide) (by decide +kernel) rfl rfl rfl (Nat.le_of_ble_eq_true rfl) dX9_sheet_2 (fun H locs hP hD hS => ?_)
  have hP : va_P D vwCl [(y, .inr (9, [.int 0, .int 0, .ref y_lane, .ref y_many, .ref y_item, .ref y_city, .ref y_fresh, .int 0, .ref y_tape, .int 0, .int 0, .int 0, .int 0, .int 0, .int 0, .int 0, .int 0, .int 0, .int 0, .int 0, .ref y_cost, .ref y_away, .ref y_fee, .ref y_goesTo, .ref y_priceWas, .ref y_isKept, .ref y_kept, .ref y_trace, .int 0]))] H := hP
  have hD : va_D A [(y, .inr (9, [.int 0, .int 0, .ref y_lane, .ref y_many, .ref y_item, .ref y_city, .ref y_fresh, .int 0, .ref y_tape, .int 0, .int 0, .int 0, .int 0, .int 0, .int 0, .int 0, .int 0, .int 0, .int 0, .int 0, .ref y_cost, .ref y_away, .ref y_fee, .ref y_goesTo, .ref y_priceWas, .ref y_isKept, .ref y_kept, .ref y_trace, .int 0]))] := hD
  refine lv_iload_n S.1 S.2.1 dX9_sheet_5 rfl (lv_at hl 1 rfl) ?_
  refine b_ai (wr := [(y, .inr (9, [.int 0, .int 0, .ref y_lane, .ref y_many, .ref y_item, .ref y_city, .ref y_fresh, .int 0, .ref y_tape, .int 0, .int 0, .int 0, .int 0, .int 0, .int 0, .int 0, .int 0, .int 0, .int 0, .int 0, .ref y_cost, .ref y_away, .ref y_fee, .ref y_goesTo, .ref y_priceWas, .ref y_isKept, .ref y_kept, .ref y_trace, .int 0]))]) (b_runS (As := [.int a]) (c_X9_isSheet_t l D cI cZ cC cS sq H.size a (by assumption)) S gX9_sheet_X9_isSheet rfl hdS_X9_isSheet ⟨Nat.le_of_ble_eq_true rfl, Nat.le_of_ble_eq_true rfl⟩ ⟨Nat.le_of_ble_eq_true rfl, Nat.le_of_ble_eq_true rfl⟩ hK hP hD [] rfl (by decide) rfl hl.1 rfl (Nat.le_of_ble_eq_true rfl) dX9_sheet_6) hP hD hS hA [] [0] rfl rfl (by decide) (by decide) (fun r_1 w_2 H locs hw_3 hP hD hS => ?_)
  obtain ⟨rfl, rfl⟩ := hw_3
  have hP : va_P D vwCl [(y, .inr (9, [.int 0, .int 0, .ref y_lane, .ref y_many, .ref y_item, .ref y_city, .ref y_fresh, .int 0, .ref y_tape, .int 0, .int 0, .int 0, .int 0, .int 0, .int 0, .int 0, .int 0, .int 0, .int 0, .int 0, .ref y_cost, .ref y_away, .ref y_fee, .ref y_goesTo, .ref y_priceWas, .ref y_isKept, .ref y_kept, .ref y_trace, .int 0]))] H := hP
  have hD : va_D A [(y, .inr (9, [.int 0, .int 0, .ref y_lane, .ref y_many, .ref y_item, .ref y_city, .ref y_fresh, .int 0, .ref y_tape, .int 0, .int 0, .int 0, .int 0, .int 0, .int 0, .int 0, .int 0, .int 0, .int 0, .int 0, .ref y_cost, .ref y_away, .ref y_fee, .ref y_goesTo, .ref y_priceWas, .ref y_isKept, .ref y_kept, .ref y_trace, .int 0]))] := hD
  refine lv_if_eq (tgt := 30) S.1 S.2.1 dX9_sheet_9 (by decide) (fun c_4 => absurd c_4 (by decide)) (fun c_4 => ?_)
  refine lv_iload_n S.1 S.2.1 dX9_sheet_12 rfl (lv_at hl 2 rfl) ?_
  refine lv_i2l (v := b.toInt64) S.1 S.2.1 dX9_sheet_13 rfl ?_
  refine lv_lconst (v := 0) S.1 S.2.1 dX9_sheet_14 (by decide) ?_
  refine lv_ldc2 (v := (2)) S.1 S.2.1 S.2.2.2.1 (S.2.2.2.2 (.constantLong RX9 71 (2)) (by decide +kernel)) dX9_sheet_15 ?_
  refine b_ai (wr := [(y, .inr (9, [.int 0, .int 0, .ref y_lane, .ref y_many, .ref y_item, .ref y_city, .ref y_fresh, .int 0, .ref y_tape, .int 0, .int 0, .int 0, .int 0, .int 0, .int 0, .int 0, .int 0, .int 0, .int 0, .int 0, .ref y_cost, .ref y_away, .ref y_fee, .ref y_goesTo, .ref y_priceWas, .ref y_isKept, .ref y_kept, .ref y_trace, .int 0]))]) (b_runS (As := [.long (b.toInt64), .long 0, .long 2]) (c_X9_in_t l D cI cZ cC cS sq H.size (b.toInt64) 0 2 (by rw [l_lt (N := 0) rfl]; omega) (by rw [l_gt (N := 2) rfl]; omega)) S gX9_sheet_X9_in rfl hdS_X9_in ⟨Nat.le_of_ble_eq_true rfl, Nat.le_of_ble_eq_true rfl⟩ ⟨Nat.le_of_ble_eq_true rfl, Nat.le_of_ble_eq_true rfl⟩ hK hP hD [] rfl (by decide) rfl hl.1 rfl (Nat.le_of_ble_eq_true rfl) dX9_sheet_18) hP hD hS hA [] [0] rfl rfl (by decide) (by decide) (fun r_5 w_6 H locs hw_7 hP hD hS => ?_)
  obtain ⟨rfl, rfl⟩ := hw_7
  have hP : va_P D vwCl [(y, .inr (9, [.int 0, .int 0, .ref y_lane, .ref y_many, .ref y_item, .ref y_city, .ref y_fresh, .int 0, .ref y_tape, .int 0, .int 0, .int 0, .int 0, .int 0, .int 0, .int 0, .int 0, .int 0, .int 0, .int 0, .ref y_cost, .ref y_away, .ref y_fee, .ref y_goesTo, .ref y_priceWas, .ref y_isKept, .ref y_kept, .ref y_trace, .int 0]))] H := hP
  have hD : va_D A [(y, .inr (9, [.int 0, .int 0, .ref y_lane, .ref y_many, .ref y_item, .ref y_city, .ref y_fresh, .int 0, .ref y_tape, .int 0, .int 0, .int 0, .int 0, .int 0, .int 0, .int 0, .int 0, .int 0, .int 0, .int 0, .ref y_cost, .ref y_away, .ref y_fee, .ref y_goesTo, .ref y_priceWas, .ref y_isKept, .ref y_kept, .ref y_trace, .int 0]))] := hD
  refine lv_if_eq (tgt := 30) S.1 S.2.1 dX9_sheet_21 (by decide) (fun c_8 => absurd c_8 (by decide)) (fun c_8 => ?_)
  refine lv_iload_n S.1 S.2.1 dX9_sheet_24 rfl (lv_at hl 3 rfl) ?_
  refine lv_bipush (v := 40) S.1 S.2.1 dX9_sheet_25 (by decide) ?_
  refine lv_icmp_le (tgt := 33) S.1 S.2.1 dX9_sheet_27 (by decide) (fun c_9 => ?_) (fun c_9 => (by exfalso; have z := c_9; rw [c_le (N := 40) rfl] at z; omega))
  refine lv_aload_n S.1 S.2.1 dX9_sheet_33 rfl (lv_at hl 0 rfl) ?_
  refine lv_iconst (v := 0) S.1 S.2.1 dX9_sheet_34 (by decide) ?_
  refine b_put (v := .int 0) S iX9 tyX9 tyX9_ok nmX9 hK hP hD hS 0 rfl rfl 1 (by decide) (by decide +kernel) rfl rfl rfl (Nat.le_of_ble_eq_true rfl) dX9_sheet_35 (fun H locs hP hD hS => ?_)
  have hP : va_P D vwCl [(y, .inr (9, [.int 0, .int 0, .ref y_lane, .ref y_many, .ref y_item, .ref y_city, .ref y_fresh, .int 0, .ref y_tape, .int 0, .int 0, .int 0, .int 0, .int 0, .int 0, .int 0, .int 0, .int 0, .int 0, .int 0, .ref y_cost, .ref y_away, .ref y_fee, .ref y_goesTo, .ref y_priceWas, .ref y_isKept, .ref y_kept, .ref y_trace, .int 0]))] H := hP
  have hD : va_D A [(y, .inr (9, [.int 0, .int 0, .ref y_lane, .ref y_many, .ref y_item, .ref y_city, .ref y_fresh, .int 0, .ref y_tape, .int 0, .int 0, .int 0, .int 0, .int 0, .int 0, .int 0, .int 0, .int 0, .int 0, .int 0, .ref y_cost, .ref y_away, .ref y_fee, .ref y_goesTo, .ref y_priceWas, .ref y_isKept, .ref y_kept, .ref y_trace, .int 0]))] := hD
  refine lv_iload_n S.1 S.2.1 dX9_sheet_38 rfl (lv_at hl 3 rfl) ?_
  refine lv_if_ge (tgt := 48) S.1 S.2.1 dX9_sheet_39 (by decide) (fun c_10 => (by exfalso; have z := c_10; rw [c_ge (N := 0) rfl] at z; omega)) (fun c_10 => ?_)
  refine lv_aload_n S.1 S.2.1 dX9_sheet_42 rfl (lv_at hl 0 rfl) ?_
  refine lv_iconst (v := 4) S.1 S.2.1 dX9_sheet_43 (by decide) ?_
  refine b_ai (wr := []) (b_runV (q0 := 0) (ci := 9) (As := [.int 4]) (c_X9_finding_4 l D cI cZ cC cS sq H.size y y_lane y_many y_item y_city y_fresh y_tape y_cost y_away y_fee y_goesTo y_priceWas y_isKept y_kept y_trace) S gX9_sheet_X9_finding rfl hdV_X9_finding ⟨Nat.le_of_ble_eq_true rfl, Nat.le_of_ble_eq_true rfl⟩ ⟨Nat.le_of_ble_eq_true rfl, Nat.le_of_ble_eq_true rfl⟩ hK hP hD rfl rfl [0] rfl (by decide) rfl hl.1 rfl (Nat.le_of_ble_eq_true rfl) dX9_sheet_44) hP hD hS hA [0] [] rfl rfl (by decide) (by decide) (fun r_11 w_12 H locs hw_13 hP hD hS => ?_)
  obtain ⟨rfl, rfl⟩ := hw_13
  have hP : va_P D vwCl [(y, .inr (9, [.int 0, .int 4, .ref y_lane, .ref y_many, .ref y_item, .ref y_city, .ref y_fresh, .int 0, .ref y_tape, .int 0, .int 0, .int 0, .int 0, .int 0, .int 0, .int 0, .int 0, .int 0, .int 0, .int 0, .ref y_cost, .ref y_away, .ref y_fee, .ref y_goesTo, .ref y_priceWas, .ref y_isKept, .ref y_kept, .ref y_trace, .int 0]))] H := hP
  have hD : va_D A [(y, .inr (9, [.int 0, .int 4, .ref y_lane, .ref y_many, .ref y_item, .ref y_city, .ref y_fresh, .int 0, .ref y_tape, .int 0, .int 0, .int 0, .int 0, .int 0, .int 0, .int 0, .int 0, .int 0, .int 0, .int 0, .ref y_cost, .ref y_away, .ref y_fee, .ref y_goesTo, .ref y_priceWas, .ref y_isKept, .ref y_kept, .ref y_trace, .int 0]))] := hD
  have hP := hP.sub (ws' := []) [] rfl
  have hD := hD.sub (ws' := []) [] (by decide) rfl
  exact b_iret S.1 S.2.1 X.2.1 X.2.2.1 hP hD hS ⟨rfl, rfl⟩ dX9_sheet_47
set_option maxHeartbeats 4000000 in
set_option maxRecDepth 100000 in
theorem lp_X9_sheet {p : Program} (l : Launch) {e : Env} {s : State} {m : MethodId} {below : List Frame} {meth : Method} {c : Code} (D : va_G) (cI cZ cC cS : ClassId) (sq : Nat) (y : Nat) (y_lane : Nat) (y_many : Nat) (y_item : Nat) (y_city : Nat) (y_fresh : Nat) (y_tape : Nat) (y_cost : Nat) (y_away : Nat) (y_fee : Nat) (y_goesTo : Nat) (y_priceWas : Nat) (y_isKept : Nat) (y_kept : Nat) (y_trace : Nat) (a : Int32) (b : Int32) (n : Int32) (hr : 0 ≤ a.toInt ∧ a.toInt ≤ 7) {A : Nat → Prop} (X : bX p s m meth c cX9_sheet 5 wsX9_sheet yX9_sheet (some .int) [.ref y, .int a, .int b, .int n]) (hK : kW D (tyW cI cZ cC cS) sq s) (hA : ∀ q, s.heap.size ≤ q → A q) :
    ∀ (k i : Nat), i + k = 40 → ∀ (H : Heap) (locs : List Loc) (ls : Array Slot) (f : Nat → Int32), va_P D vwCl [(y, .inr (9, [.int 0, .int 0, .ref y_lane, .ref y_many, .ref y_item, .ref y_city, .ref y_fresh, .int 0, .ref y_tape, .int 0, .int 0, .int 0, .int 0, .int 0, .int 0, .int 0, .int 0, .int 0, .int 0, .int 0, .ref y_cost, .ref y_away, .ref y_fee, .ref y_goesTo, .ref y_priceWas, .ref y_isKept, .ref y_kept, .ref y_trace, .int 0])), (y_item, .inl (cI, 320, .inl f))] H → va_D A [(y, .inr (9, [.int 0, .int 0, .ref y_lane, .ref y_many, .ref y_item, .ref y_city, .ref y_fresh, .int 0, .ref y_tape, .int 0, .int 0, .int 0, .int 0, .int 0, .int 0, .int 0, .int 0, .int 0, .int 0, .int 0, .ref y_cost, .ref y_away, .ref y_fee, .ref y_goesTo, .ref y_priceWas, .ref y_isKept, .ref y_kept, .ref y_trace, .int 0])), (y_item, .inl (cI, 320, .inl f))] → va_S A s.heap H locs → lv_has ls 5 [(4, .int (nI i)), (0, .ref y), (1, .int a), (2, .int b), (3, .int n)] →
      W p l e (rmW 2 60 0 0) s m ([.ref y, .int a, .int b, .int n] : List Value).toArray below meth c H locs 0 0 (MQ below (va_Qi (fun r w => r = n ∧ w = []) (wD D A) A) ([.ref y, .int a, .int b, .int n] : List Value).toArray s 0 0 A) (F0 m 65 ls []) := by
  have S : CallFix p m c cX9_sheet 5 s ([.ref y, .int a, .int b, .int n] : List Value).toArray wsX9_sheet RX9 := X.1
  have iX9 := jX9_sheet_X9
  intro k
  induction k with
  | zero =>
    intro i hi H locs ls f hP hD hS hl
    obtain rfl : i = 40 := by omega
    refine lv_iload S.1 S.2.1 dX9_sheet_65 (lv_at hl 0 rfl) ?_
    refine lv_bipush (v := 40) S.1 S.2.1 dX9_sheet_67 (by decide) ?_
    refine lv_icmp_ge (tgt := 91) S.1 S.2.1 dX9_sheet_69 (by decide) (fun c_1 => ?_) (fun c_1 => absurd (show (40 : Int32) ≤ nI 40 from by decide) c_1)
    refine lv_iload_n S.1 S.2.1 dX9_sheet_91 rfl (lv_at hl 4 rfl) ?_
    have hP := hP.sub (ws' := []) [] rfl
    have hD := hD.sub (ws' := []) [] (by decide) rfl
    exact b_iret S.1 S.2.1 X.2.1 X.2.2.1 hP hD hS ⟨rfl, rfl⟩ dX9_sheet_92
  | succ k ih =>
    intro i hi H locs ls f hP hD hS hl
    have hlt : i < 40 := by omega
    refine lv_iload S.1 S.2.1 dX9_sheet_65 (lv_at hl 0 rfl) ?_
    refine lv_bipush (v := 40) S.1 S.2.1 dX9_sheet_67 (by decide) ?_
    refine lv_icmp_ge (tgt := 91) S.1 S.2.1 dX9_sheet_69 (by decide) (fun c_1 => absurd c_1 (nI_ge (b := 40) hlt (by decide))) (fun c_1 => ?_)
    refine lv_aload_n S.1 S.2.1 dX9_sheet_72 rfl (lv_at hl 1 rfl) ?_
    refine b_get (v := .ref y_item) S iX9 hK hP 0 rfl rfl 4 (by decide) (by decide +kernel) rfl dX9_sheet_73 ?_
    refine lv_bipush (v := 40) S.1 S.2.1 dX9_sheet_76 (by decide) ?_
    refine lv_iload_n S.1 S.2.1 dX9_sheet_78 rfl (lv_at hl 2 rfl) ?_
    refine lv_imul S.1 S.2.1 dX9_sheet_79 ?_
    refine lv_topi (fun x_2 ex_2 => ?_)
    refine lv_iload S.1 S.2.1 dX9_sheet_80 (lv_at hl 0 rfl) ?_
    refine lv_iadd S.1 S.2.1 dX9_sheet_82 ?_
    refine lv_topi (fun x_3 ex_3 => ?_)
    refine lv_iconst (v := 0) S.1 S.2.1 dX9_sheet_83 (by decide) ?_
    refine va_iast S.1 S.2.1 hK.1 hP hD hS 1 0 rfl rfl (by rw [ex_3, ex_2]; exact in40 hr hlt) dX9_sheet_84 (fun H locs hP hD hS => ?_)
    have hP : va_P D vwCl [(y, .inr (9, [.int 0, .int 0, .ref y_lane, .ref y_many, .ref y_item, .ref y_city, .ref y_fresh, .int 0, .ref y_tape, .int 0, .int 0, .int 0, .int 0, .int 0, .int 0, .int 0, .int 0, .int 0, .int 0, .int 0, .ref y_cost, .ref y_away, .ref y_fee, .ref y_goesTo, .ref y_priceWas, .ref y_isKept, .ref y_kept, .ref y_trace, .int 0])), (y_item, .inl (cI, 320, .inl (upd f x_3.toNatClampNeg (0))))] H := hP
    have hD : va_D A [(y, .inr (9, [.int 0, .int 0, .ref y_lane, .ref y_many, .ref y_item, .ref y_city, .ref y_fresh, .int 0, .ref y_tape, .int 0, .int 0, .int 0, .int 0, .int 0, .int 0, .int 0, .int 0, .int 0, .int 0, .int 0, .ref y_cost, .ref y_away, .ref y_fee, .ref y_goesTo, .ref y_priceWas, .ref y_isKept, .ref y_kept, .ref y_trace, .int 0])), (y_item, .inl (cI, 320, .inl (upd f x_3.toNatClampNeg (0))))] := hD
    generalize (upd f x_3.toNatClampNeg (0)) = f_4 at hP hD
    refine lv_iinc (v := nI (i + 1)) (lv' := [(4, .int (nI (i + 1))), (0, .ref y), (1, .int a), (2, .int b), (3, .int n)]) S.1 S.2.1 dX9_sheet_85 hl (k := 0) rfl (nI_1 i) (by decide) rfl (fun ls hl => ?_)
    refine lv_goto (tgt := 65) S.1 S.2.1 dX9_sheet_88 (by decide) ?_
    exact ih (i + 1) (by omega) H locs ls _ hP hD hS (lv_sub hl [0, 1, 2, 3, 4] rfl)
set_option maxHeartbeats 4000000 in
set_option maxRecDepth 100000 in
theorem c_X9_sheet_ok (l : Launch) (D : va_G) (cI cZ cC cS : ClassId) (sq sz : Nat) (y : Nat) (y_lane : Nat) (y_many : Nat) (y_item : Nat) (y_city : Nat) (y_fresh : Nat) (y_tape : Nat) (y_cost : Nat) (y_away : Nat) (y_fee : Nat) (y_goesTo : Nat) (y_priceWas : Nat) (y_isKept : Nat) (y_kept : Nat) (y_trace : Nat) (a : Int32) (b : Int32) (n : Int32) (la : Nat → Int32) (fm : Nat → Int32) (f : Nat → Int32) (hr : 0 ≤ a.toInt ∧ a.toInt ≤ 7) (hl2 : 0 ≤ b.toInt ∧ b.toInt ≤ 2) (hn : 0 ≤ n.toInt ∧ n.toInt ≤ 40) : mI l yX9_sheet wsX9_sheet 2 60 D (tyW cI cZ cC cS) sq [(y, .inr (9, [.int 0, .int 0, .ref y_lane, .ref y_many, .ref y_item, .ref y_city, .ref y_fresh, .int 0, .ref y_tape, .int 0, .int 0, .int 0, .int 0, .int 0, .int 0, .int 0, .int 0, .int 0, .int 0, .int 0, .ref y_cost, .ref y_away, .ref y_fee, .ref y_goesTo, .ref y_priceWas, .ref y_isKept, .ref y_kept, .ref y_trace, .int 0])), (y_lane, .inl (cI, 8, .inl la)), (y_many, .inl (cI, 8, .inl fm)), (y_item, .inl (cI, 320, .inl f))] sz [.ref y, .int a, .int b, .int n] (fun r w => r = n ∧ w = []) := by
  refine b_metI (cc := cX9_sheet) (maxL := 5) (ret := (some .int)) (by decide) rfl (Nat.le_of_ble_eq_true rfl) ?_
  intro p e s m below meth c ls A H X hsz hP hK hD hA hS hl
  have S : CallFix p m c cX9_sheet 5 s ([.ref y, .int a, .int b, .int n] : List Value).toArray wsX9_sheet RX9 := X.1
  have hl : lv_has ls 5 [(0, .ref y), (1, .int a), (2, .int b), (3, .int n)] := hl
  have iX9 := jX9_sheet_X9
  refine lv_aload_n S.1 S.2.1 dX9_sheet_0 rfl (lv_at hl 0 rfl) ?_
  refine lv_iconst (v := 0) S.1 S.2.1 dX9_sheet_1 (by decide) ?_
  refine b_put (v := .int 0) S iX9 tyX9 tyX9_ok nmX9 hK hP hD hS 0 rfl rfl 0 (by decide) (by decide +kernel) rfl rfl rfl (Nat.le_of_ble_eq_true rfl) dX9_sheet_2 (fun H locs hP hD hS => ?_)
  have hP : va_P D vwCl [(y, .inr (9, [.int 0, .int 0, .ref y_lane, .ref y_many, .ref y_item, .ref y_city, .ref y_fresh, .int 0, .ref y_tape, .int 0, .int 0, .int 0, .int 0, .int 0, .int 0, .int 0, .int 0, .int 0, .int 0, .int 0, .ref y_cost, .ref y_away, .ref y_fee, .ref y_goesTo, .ref y_priceWas, .ref y_isKept, .ref y_kept, .ref y_trace, .int 0])), (y_lane, .inl (cI, 8, .inl la)), (y_many, .inl (cI, 8, .inl fm)), (y_item, .inl (cI, 320, .inl f))] H := hP
  have hD : va_D A [(y, .inr (9, [.int 0, .int 0, .ref y_lane, .ref y_many, .ref y_item, .ref y_city, .ref y_fresh, .int 0, .ref y_tape, .int 0, .int 0, .int 0, .int 0, .int 0, .int 0, .int 0, .int 0, .int 0, .int 0, .int 0, .ref y_cost, .ref y_away, .ref y_fee, .ref y_goesTo, .ref y_priceWas, .ref y_isKept, .ref y_kept, .ref y_trace, .int 0])), (y_lane, .inl (cI, 8, .inl la)), (y_many, .inl (cI, 8, .inl fm)), (y_item, .inl (cI, 320, .inl f))] := hD
  refine lv_iload_n S.1 S.2.1 dX9_sheet_5 rfl (lv_at hl 1 rfl) ?_
  refine b_ai (wr := [(y, .inr (9, [.int 0, .int 0, .ref y_lane, .ref y_many, .ref y_item, .ref y_city, .ref y_fresh, .int 0, .ref y_tape, .int 0, .int 0, .int 0, .int 0, .int 0, .int 0, .int 0, .int 0, .int 0, .int 0, .int 0, .ref y_cost, .ref y_away, .ref y_fee, .ref y_goesTo, .ref y_priceWas, .ref y_isKept, .ref y_kept, .ref y_trace, .int 0])), (y_lane, .inl (cI, 8, .inl la)), (y_many, .inl (cI, 8, .inl fm)), (y_item, .inl (cI, 320, .inl f))]) (b_runS (As := [.int a]) (c_X9_isSheet_t l D cI cZ cC cS sq H.size a (by assumption)) S gX9_sheet_X9_isSheet rfl hdS_X9_isSheet ⟨Nat.le_of_ble_eq_true rfl, Nat.le_of_ble_eq_true rfl⟩ ⟨Nat.le_of_ble_eq_true rfl, Nat.le_of_ble_eq_true rfl⟩ hK hP hD [] rfl (by decide) rfl hl.1 rfl (Nat.le_of_ble_eq_true rfl) dX9_sheet_6) hP hD hS hA [] [0, 1, 2, 3] rfl rfl (by decide) (by decide) (fun r_1 w_2 H locs hw_3 hP hD hS => ?_)
  obtain ⟨rfl, rfl⟩ := hw_3
  have hP : va_P D vwCl [(y, .inr (9, [.int 0, .int 0, .ref y_lane, .ref y_many, .ref y_item, .ref y_city, .ref y_fresh, .int 0, .ref y_tape, .int 0, .int 0, .int 0, .int 0, .int 0, .int 0, .int 0, .int 0, .int 0, .int 0, .int 0, .ref y_cost, .ref y_away, .ref y_fee, .ref y_goesTo, .ref y_priceWas, .ref y_isKept, .ref y_kept, .ref y_trace, .int 0])), (y_lane, .inl (cI, 8, .inl la)), (y_many, .inl (cI, 8, .inl fm)), (y_item, .inl (cI, 320, .inl f))] H := hP
  have hD : va_D A [(y, .inr (9, [.int 0, .int 0, .ref y_lane, .ref y_many, .ref y_item, .ref y_city, .ref y_fresh, .int 0, .ref y_tape, .int 0, .int 0, .int 0, .int 0, .int 0, .int 0, .int 0, .int 0, .int 0, .int 0, .int 0, .ref y_cost, .ref y_away, .ref y_fee, .ref y_goesTo, .ref y_priceWas, .ref y_isKept, .ref y_kept, .ref y_trace, .int 0])), (y_lane, .inl (cI, 8, .inl la)), (y_many, .inl (cI, 8, .inl fm)), (y_item, .inl (cI, 320, .inl f))] := hD
  refine lv_if_eq (tgt := 30) S.1 S.2.1 dX9_sheet_9 (by decide) (fun c_4 => absurd c_4 (by decide)) (fun c_4 => ?_)
  refine lv_iload_n S.1 S.2.1 dX9_sheet_12 rfl (lv_at hl 2 rfl) ?_
  refine lv_i2l (v := b.toInt64) S.1 S.2.1 dX9_sheet_13 rfl ?_
  refine lv_lconst (v := 0) S.1 S.2.1 dX9_sheet_14 (by decide) ?_
  refine lv_ldc2 (v := (2)) S.1 S.2.1 S.2.2.2.1 (S.2.2.2.2 (.constantLong RX9 71 (2)) (by decide +kernel)) dX9_sheet_15 ?_
  refine b_ai (wr := [(y, .inr (9, [.int 0, .int 0, .ref y_lane, .ref y_many, .ref y_item, .ref y_city, .ref y_fresh, .int 0, .ref y_tape, .int 0, .int 0, .int 0, .int 0, .int 0, .int 0, .int 0, .int 0, .int 0, .int 0, .int 0, .ref y_cost, .ref y_away, .ref y_fee, .ref y_goesTo, .ref y_priceWas, .ref y_isKept, .ref y_kept, .ref y_trace, .int 0])), (y_lane, .inl (cI, 8, .inl la)), (y_many, .inl (cI, 8, .inl fm)), (y_item, .inl (cI, 320, .inl f))]) (b_runS (As := [.long (b.toInt64), .long 0, .long 2]) (c_X9_in_t l D cI cZ cC cS sq H.size (b.toInt64) 0 2 (by rw [l_lt (N := 0) rfl]; omega) (by rw [l_gt (N := 2) rfl]; omega)) S gX9_sheet_X9_in rfl hdS_X9_in ⟨Nat.le_of_ble_eq_true rfl, Nat.le_of_ble_eq_true rfl⟩ ⟨Nat.le_of_ble_eq_true rfl, Nat.le_of_ble_eq_true rfl⟩ hK hP hD [] rfl (by decide) rfl hl.1 rfl (Nat.le_of_ble_eq_true rfl) dX9_sheet_18) hP hD hS hA [] [0, 1, 2, 3] rfl rfl (by decide) (by decide) (fun r_5 w_6 H locs hw_7 hP hD hS => ?_)
  obtain ⟨rfl, rfl⟩ := hw_7
  have hP : va_P D vwCl [(y, .inr (9, [.int 0, .int 0, .ref y_lane, .ref y_many, .ref y_item, .ref y_city, .ref y_fresh, .int 0, .ref y_tape, .int 0, .int 0, .int 0, .int 0, .int 0, .int 0, .int 0, .int 0, .int 0, .int 0, .int 0, .ref y_cost, .ref y_away, .ref y_fee, .ref y_goesTo, .ref y_priceWas, .ref y_isKept, .ref y_kept, .ref y_trace, .int 0])), (y_lane, .inl (cI, 8, .inl la)), (y_many, .inl (cI, 8, .inl fm)), (y_item, .inl (cI, 320, .inl f))] H := hP
  have hD : va_D A [(y, .inr (9, [.int 0, .int 0, .ref y_lane, .ref y_many, .ref y_item, .ref y_city, .ref y_fresh, .int 0, .ref y_tape, .int 0, .int 0, .int 0, .int 0, .int 0, .int 0, .int 0, .int 0, .int 0, .int 0, .int 0, .ref y_cost, .ref y_away, .ref y_fee, .ref y_goesTo, .ref y_priceWas, .ref y_isKept, .ref y_kept, .ref y_trace, .int 0])), (y_lane, .inl (cI, 8, .inl la)), (y_many, .inl (cI, 8, .inl fm)), (y_item, .inl (cI, 320, .inl f))] := hD
  refine lv_if_eq (tgt := 30) S.1 S.2.1 dX9_sheet_21 (by decide) (fun c_8 => absurd c_8 (by decide)) (fun c_8 => ?_)
  refine lv_iload_n S.1 S.2.1 dX9_sheet_24 rfl (lv_at hl 3 rfl) ?_
  refine lv_bipush (v := 40) S.1 S.2.1 dX9_sheet_25 (by decide) ?_
  refine lv_icmp_le (tgt := 33) S.1 S.2.1 dX9_sheet_27 (by decide) (fun c_9 => ?_) (fun c_9 => (by exfalso; have z := c_9; rw [c_le (N := 40) rfl] at z; omega))
  refine lv_aload_n S.1 S.2.1 dX9_sheet_33 rfl (lv_at hl 0 rfl) ?_
  refine lv_iconst (v := 0) S.1 S.2.1 dX9_sheet_34 (by decide) ?_
  refine b_put (v := .int 0) S iX9 tyX9 tyX9_ok nmX9 hK hP hD hS 0 rfl rfl 1 (by decide) (by decide +kernel) rfl rfl rfl (Nat.le_of_ble_eq_true rfl) dX9_sheet_35 (fun H locs hP hD hS => ?_)
  have hP : va_P D vwCl [(y, .inr (9, [.int 0, .int 0, .ref y_lane, .ref y_many, .ref y_item, .ref y_city, .ref y_fresh, .int 0, .ref y_tape, .int 0, .int 0, .int 0, .int 0, .int 0, .int 0, .int 0, .int 0, .int 0, .int 0, .int 0, .ref y_cost, .ref y_away, .ref y_fee, .ref y_goesTo, .ref y_priceWas, .ref y_isKept, .ref y_kept, .ref y_trace, .int 0])), (y_lane, .inl (cI, 8, .inl la)), (y_many, .inl (cI, 8, .inl fm)), (y_item, .inl (cI, 320, .inl f))] H := hP
  have hD : va_D A [(y, .inr (9, [.int 0, .int 0, .ref y_lane, .ref y_many, .ref y_item, .ref y_city, .ref y_fresh, .int 0, .ref y_tape, .int 0, .int 0, .int 0, .int 0, .int 0, .int 0, .int 0, .int 0, .int 0, .int 0, .int 0, .ref y_cost, .ref y_away, .ref y_fee, .ref y_goesTo, .ref y_priceWas, .ref y_isKept, .ref y_kept, .ref y_trace, .int 0])), (y_lane, .inl (cI, 8, .inl la)), (y_many, .inl (cI, 8, .inl fm)), (y_item, .inl (cI, 320, .inl f))] := hD
  refine lv_iload_n S.1 S.2.1 dX9_sheet_38 rfl (lv_at hl 3 rfl) ?_
  refine lv_if_ge (tgt := 48) S.1 S.2.1 dX9_sheet_39 (by decide) (fun c_10 => ?_) (fun c_10 => (by exfalso; have z := c_10; rw [c_ge (N := 0) rfl] at z; omega))
  refine lv_aload_n S.1 S.2.1 dX9_sheet_48 rfl (lv_at hl 0 rfl) ?_
  refine b_get (v := .ref y_lane) S iX9 hK hP 0 rfl rfl 2 (by decide) (by decide +kernel) rfl dX9_sheet_49 ?_
  refine lv_iload_n S.1 S.2.1 dX9_sheet_52 rfl (lv_at hl 1 rfl) ?_
  refine lv_iload_n S.1 S.2.1 dX9_sheet_53 rfl (lv_at hl 2 rfl) ?_
  refine va_iast S.1 S.2.1 hK.1 hP hD hS 1 0 rfl rfl (in_of (n := 8) (by omega) (by omega)) dX9_sheet_54 (fun H locs hP hD hS => ?_)
  have hP : va_P D vwCl [(y, .inr (9, [.int 0, .int 0, .ref y_lane, .ref y_many, .ref y_item, .ref y_city, .ref y_fresh, .int 0, .ref y_tape, .int 0, .int 0, .int 0, .int 0, .int 0, .int 0, .int 0, .int 0, .int 0, .int 0, .int 0, .ref y_cost, .ref y_away, .ref y_fee, .ref y_goesTo, .ref y_priceWas, .ref y_isKept, .ref y_kept, .ref y_trace, .int 0])), (y_lane, .inl (cI, 8, .inl (upd la a.toNatClampNeg (b)))), (y_many, .inl (cI, 8, .inl fm)), (y_item, .inl (cI, 320, .inl f))] H := hP
  have hD : va_D A [(y, .inr (9, [.int 0, .int 0, .ref y_lane, .ref y_many, .ref y_item, .ref y_city, .ref y_fresh, .int 0, .ref y_tape, .int 0, .int 0, .int 0, .int 0, .int 0, .int 0, .int 0, .int 0, .int 0, .int 0, .int 0, .ref y_cost, .ref y_away, .ref y_fee, .ref y_goesTo, .ref y_priceWas, .ref y_isKept, .ref y_kept, .ref y_trace, .int 0])), (y_lane, .inl (cI, 8, .inl (upd la a.toNatClampNeg (b)))), (y_many, .inl (cI, 8, .inl fm)), (y_item, .inl (cI, 320, .inl f))] := hD
  generalize (upd la a.toNatClampNeg (b)) = f_11 at hP hD
  refine lv_aload_n S.1 S.2.1 dX9_sheet_55 rfl (lv_at hl 0 rfl) ?_
  refine b_get (v := .ref y_many) S iX9 hK hP 0 rfl rfl 3 (by decide) (by decide +kernel) rfl dX9_sheet_56 ?_
  refine lv_iload_n S.1 S.2.1 dX9_sheet_59 rfl (lv_at hl 1 rfl) ?_
  refine lv_iload_n S.1 S.2.1 dX9_sheet_60 rfl (lv_at hl 3 rfl) ?_
  refine va_iast S.1 S.2.1 hK.1 hP hD hS 2 0 rfl rfl (in_of (n := 8) (by omega) (by omega)) dX9_sheet_61 (fun H locs hP hD hS => ?_)
  have hP : va_P D vwCl [(y, .inr (9, [.int 0, .int 0, .ref y_lane, .ref y_many, .ref y_item, .ref y_city, .ref y_fresh, .int 0, .ref y_tape, .int 0, .int 0, .int 0, .int 0, .int 0, .int 0, .int 0, .int 0, .int 0, .int 0, .int 0, .ref y_cost, .ref y_away, .ref y_fee, .ref y_goesTo, .ref y_priceWas, .ref y_isKept, .ref y_kept, .ref y_trace, .int 0])), (y_lane, .inl (cI, 8, .inl f_11)), (y_many, .inl (cI, 8, .inl (upd fm a.toNatClampNeg (n)))), (y_item, .inl (cI, 320, .inl f))] H := hP
  have hD : va_D A [(y, .inr (9, [.int 0, .int 0, .ref y_lane, .ref y_many, .ref y_item, .ref y_city, .ref y_fresh, .int 0, .ref y_tape, .int 0, .int 0, .int 0, .int 0, .int 0, .int 0, .int 0, .int 0, .int 0, .int 0, .int 0, .ref y_cost, .ref y_away, .ref y_fee, .ref y_goesTo, .ref y_priceWas, .ref y_isKept, .ref y_kept, .ref y_trace, .int 0])), (y_lane, .inl (cI, 8, .inl f_11)), (y_many, .inl (cI, 8, .inl (upd fm a.toNatClampNeg (n)))), (y_item, .inl (cI, 320, .inl f))] := hD
  generalize (upd fm a.toNatClampNeg (n)) = f_12 at hP hD
  refine lv_iconst (v := 0) S.1 S.2.1 dX9_sheet_62 (by decide) ?_
  refine lv_istore (lv' := [(4, .int 0), (0, .ref y), (1, .int a), (2, .int b), (3, .int n)]) S.1 S.2.1 dX9_sheet_63 hl (by decide) rfl (fun ls hl => ?_)
  have hP := hP.sub (ws' := [(y, .inr (9, [.int 0, .int 0, .ref y_lane, .ref y_many, .ref y_item, .ref y_city, .ref y_fresh, .int 0, .ref y_tape, .int 0, .int 0, .int 0, .int 0, .int 0, .int 0, .int 0, .int 0, .int 0, .int 0, .int 0, .ref y_cost, .ref y_away, .ref y_fee, .ref y_goesTo, .ref y_priceWas, .ref y_isKept, .ref y_kept, .ref y_trace, .int 0])), (y_item, .inl (cI, 320, .inl f))]) [0, 3] rfl
  have hD := hD.sub (ws' := [(y, .inr (9, [.int 0, .int 0, .ref y_lane, .ref y_many, .ref y_item, .ref y_city, .ref y_fresh, .int 0, .ref y_tape, .int 0, .int 0, .int 0, .int 0, .int 0, .int 0, .int 0, .int 0, .int 0, .int 0, .int 0, .ref y_cost, .ref y_away, .ref y_fee, .ref y_goesTo, .ref y_priceWas, .ref y_isKept, .ref y_kept, .ref y_trace, .int 0])), (y_item, .inl (cI, 320, .inl f))]) [0, 3] (by decide) rfl
  exact lp_X9_sheet l D cI cZ cC cS sq y y_lane y_many y_item y_city y_fresh y_tape y_cost y_away y_fee y_goesTo y_priceWas y_isKept y_kept y_trace a b n hr X hK hA 40 0 (by omega) H _ ls _ hP hD hS (lv_sub hl [0, 1, 2, 3, 4] rfl)
set_option maxHeartbeats 4000000 in
set_option maxRecDepth 100000 in
theorem c_X9_feed_bad (l : Launch) (D : va_G) (cI cZ cC cS : ClassId) (sq sz : Nat) (y : Nat) (y_lane : Nat) (y_many : Nat) (y_item : Nat) (y_city : Nat) (y_fresh : Nat) (y_tape : Nat) (y_cost : Nat) (y_away : Nat) (y_fee : Nat) (y_goesTo : Nat) (y_priceWas : Nat) (y_isKept : Nat) (y_kept : Nat) (y_trace : Nat) (wv : Int64) (n : Int32) (hn : n.toInt < 1 ∨ 8 < n.toInt) : mI l yX9_feed wsX9_feed 1 25 D (tyW cI cZ cC cS) sq [(y, .inr (9, [.int 0, .int 0, .ref y_lane, .ref y_many, .ref y_item, .ref y_city, .ref y_fresh, .int 0, .ref y_tape, .int 0, .int 0, .int 0, .int 0, .int 0, .int 0, .int 0, .int 0, .int 0, .int 0, .int 0, .ref y_cost, .ref y_away, .ref y_fee, .ref y_goesTo, .ref y_priceWas, .ref y_isKept, .ref y_kept, .ref y_trace, .int 0]))] sz [.ref y, .long wv, .int n] (fun r w => r = -1000001 ∧ w = []) := by
  refine b_metI (cc := cX9_feed) (maxL := 5) (ret := (some .int)) (by decide) rfl (Nat.le_of_ble_eq_true rfl) ?_
  intro p e s m below meth c ls A H X hsz hP hK hD hA hS hl
  have S : CallFix p m c cX9_feed 5 s ([.ref y, .long wv, .int n] : List Value).toArray wsX9_feed RX9 := X.1
  have hl : lv_has ls 5 [(0, .ref y), (1, .long wv), (3, .int n)] := hl
  have iX9 := jX9_feed_X9
  refine lv_aload_n S.1 S.2.1 dX9_feed_0 rfl (lv_at hl 0 rfl) ?_
  refine lv_iconst (v := 0) S.1 S.2.1 dX9_feed_1 (by decide) ?_
  refine b_put (v := .int 0) S iX9 tyX9 tyX9_ok nmX9 hK hP hD hS 0 rfl rfl 0 (by decide) (by decide +kernel) rfl rfl rfl (Nat.le_of_ble_eq_true rfl) dX9_feed_2 (fun H locs hP hD hS => ?_)
  have hP : va_P D vwCl [(y, .inr (9, [.int 0, .int 0, .ref y_lane, .ref y_many, .ref y_item, .ref y_city, .ref y_fresh, .int 0, .ref y_tape, .int 0, .int 0, .int 0, .int 0, .int 0, .int 0, .int 0, .int 0, .int 0, .int 0, .int 0, .ref y_cost, .ref y_away, .ref y_fee, .ref y_goesTo, .ref y_priceWas, .ref y_isKept, .ref y_kept, .ref y_trace, .int 0]))] H := hP
  have hD : va_D A [(y, .inr (9, [.int 0, .int 0, .ref y_lane, .ref y_many, .ref y_item, .ref y_city, .ref y_fresh, .int 0, .ref y_tape, .int 0, .int 0, .int 0, .int 0, .int 0, .int 0, .int 0, .int 0, .int 0, .int 0, .int 0, .ref y_cost, .ref y_away, .ref y_fee, .ref y_goesTo, .ref y_priceWas, .ref y_isKept, .ref y_kept, .ref y_trace, .int 0]))] := hD
  refine lv_iload_n S.1 S.2.1 dX9_feed_5 rfl (lv_at hl 2 rfl) ?_
  refine lv_i2l (v := n.toInt64) S.1 S.2.1 dX9_feed_6 rfl ?_
  refine lv_lconst (v := 1) S.1 S.2.1 dX9_feed_7 (by decide) ?_
  refine lv_ldc2 (v := (8)) S.1 S.2.1 S.2.2.2.1 (S.2.2.2.2 (.constantLong RX9 78 (8)) (by decide +kernel)) dX9_feed_8 ?_
  refine b_ai (wr := [(y, .inr (9, [.int 0, .int 0, .ref y_lane, .ref y_many, .ref y_item, .ref y_city, .ref y_fresh, .int 0, .ref y_tape, .int 0, .int 0, .int 0, .int 0, .int 0, .int 0, .int 0, .int 0, .int 0, .int 0, .int 0, .ref y_cost, .ref y_away, .ref y_fee, .ref y_goesTo, .ref y_priceWas, .ref y_isKept, .ref y_kept, .ref y_trace, .int 0]))]) (b_runS (As := [.long (n.toInt64), .long 1, .long 8]) (c_X9_in_f l D cI cZ cC cS sq H.size (n.toInt64) 1 8 (fun z => by rw [l_lt (N := 1) rfl] at z; rw [l_gt (N := 8) rfl]; omega)) S gX9_feed_X9_in rfl hdS_X9_in ⟨Nat.le_of_ble_eq_true rfl, Nat.le_of_ble_eq_true rfl⟩ ⟨Nat.le_of_ble_eq_true rfl, Nat.le_of_ble_eq_true rfl⟩ hK hP hD [] rfl (by decide) rfl hl.1 rfl (Nat.le_of_ble_eq_true rfl) dX9_feed_11) hP hD hS hA [] [0] rfl rfl (by decide) (by decide) (fun r_1 w_2 H locs hw_3 hP hD hS => ?_)
  obtain ⟨rfl, rfl⟩ := hw_3
  have hP : va_P D vwCl [(y, .inr (9, [.int 0, .int 0, .ref y_lane, .ref y_many, .ref y_item, .ref y_city, .ref y_fresh, .int 0, .ref y_tape, .int 0, .int 0, .int 0, .int 0, .int 0, .int 0, .int 0, .int 0, .int 0, .int 0, .int 0, .ref y_cost, .ref y_away, .ref y_fee, .ref y_goesTo, .ref y_priceWas, .ref y_isKept, .ref y_kept, .ref y_trace, .int 0]))] H := hP
  have hD : va_D A [(y, .inr (9, [.int 0, .int 0, .ref y_lane, .ref y_many, .ref y_item, .ref y_city, .ref y_fresh, .int 0, .ref y_tape, .int 0, .int 0, .int 0, .int 0, .int 0, .int 0, .int 0, .int 0, .int 0, .int 0, .int 0, .ref y_cost, .ref y_away, .ref y_fee, .ref y_goesTo, .ref y_priceWas, .ref y_isKept, .ref y_kept, .ref y_trace, .int 0]))] := hD
  refine lv_if_ne (tgt := 20) S.1 S.2.1 dX9_feed_14 (by decide) (fun c_4 => absurd c_4 (by decide)) (fun c_4 => ?_)
  refine lv_ldc (v := (-1000001)) S.1 S.2.1 S.2.2.2.1 (S.2.2.2.2 (.constant RX9 73 (-1000001)) (by decide +kernel)) dX9_feed_17 ?_
  have hP := hP.sub (ws' := []) [] rfl
  have hD := hD.sub (ws' := []) [] (by decide) rfl
  exact b_iret S.1 S.2.1 X.2.1 X.2.2.1 hP hD hS ⟨rfl, rfl⟩ dX9_feed_19
set_option maxHeartbeats 4000000 in
set_option maxRecDepth 100000 in
theorem c_X9_image_bad (l : Launch) (D : va_G) (cI cZ cC cS : ClassId) (sq sz : Nat) (y : Nat) (y_lane : Nat) (y_many : Nat) (y_item : Nat) (y_city : Nat) (y_fresh : Nat) (y_tape : Nat) (y_cost : Nat) (y_away : Nat) (y_fee : Nat) (y_goesTo : Nat) (y_priceWas : Nat) (y_isKept : Nat) (y_kept : Nat) (y_trace : Nat) (a : Int32) (hr : a.toInt < 0 ∨ 1 < a.toInt) : mI l yX9_image wsX9_image 1 25 D (tyW cI cZ cC cS) sq [(y, .inr (9, [.int 0, .int 0, .ref y_lane, .ref y_many, .ref y_item, .ref y_city, .ref y_fresh, .int 0, .ref y_tape, .int 0, .int 0, .int 0, .int 0, .int 0, .int 0, .int 0, .int 0, .int 0, .int 0, .int 0, .ref y_cost, .ref y_away, .ref y_fee, .ref y_goesTo, .ref y_priceWas, .ref y_isKept, .ref y_kept, .ref y_trace, .int 0]))] sz [.ref y, .int a] (fun r w => r = -1000001 ∧ w = []) := by
  refine b_metI (cc := cX9_image) (maxL := 3) (ret := (some .int)) (by decide) rfl (Nat.le_of_ble_eq_true rfl) ?_
  intro p e s m below meth c ls A H X hsz hP hK hD hA hS hl
  have S : CallFix p m c cX9_image 3 s ([.ref y, .int a] : List Value).toArray wsX9_image RX9 := X.1
  have hl : lv_has ls 3 [(0, .ref y), (1, .int a)] := hl
  have iX9 := jX9_image_X9
  refine lv_aload_n S.1 S.2.1 dX9_image_0 rfl (lv_at hl 0 rfl) ?_
  refine lv_iconst (v := 0) S.1 S.2.1 dX9_image_1 (by decide) ?_
  refine b_put (v := .int 0) S iX9 tyX9 tyX9_ok nmX9 hK hP hD hS 0 rfl rfl 0 (by decide) (by decide +kernel) rfl rfl rfl (Nat.le_of_ble_eq_true rfl) dX9_image_2 (fun H locs hP hD hS => ?_)
  have hP : va_P D vwCl [(y, .inr (9, [.int 0, .int 0, .ref y_lane, .ref y_many, .ref y_item, .ref y_city, .ref y_fresh, .int 0, .ref y_tape, .int 0, .int 0, .int 0, .int 0, .int 0, .int 0, .int 0, .int 0, .int 0, .int 0, .int 0, .ref y_cost, .ref y_away, .ref y_fee, .ref y_goesTo, .ref y_priceWas, .ref y_isKept, .ref y_kept, .ref y_trace, .int 0]))] H := hP
  have hD : va_D A [(y, .inr (9, [.int 0, .int 0, .ref y_lane, .ref y_many, .ref y_item, .ref y_city, .ref y_fresh, .int 0, .ref y_tape, .int 0, .int 0, .int 0, .int 0, .int 0, .int 0, .int 0, .int 0, .int 0, .int 0, .int 0, .ref y_cost, .ref y_away, .ref y_fee, .ref y_goesTo, .ref y_priceWas, .ref y_isKept, .ref y_kept, .ref y_trace, .int 0]))] := hD
  refine lv_iload_n S.1 S.2.1 dX9_image_5 rfl (lv_at hl 1 rfl) ?_
  refine lv_i2l (v := a.toInt64) S.1 S.2.1 dX9_image_6 rfl ?_
  refine lv_lconst (v := 0) S.1 S.2.1 dX9_image_7 (by decide) ?_
  refine lv_lconst (v := 1) S.1 S.2.1 dX9_image_8 (by decide) ?_
  refine b_ai (wr := [(y, .inr (9, [.int 0, .int 0, .ref y_lane, .ref y_many, .ref y_item, .ref y_city, .ref y_fresh, .int 0, .ref y_tape, .int 0, .int 0, .int 0, .int 0, .int 0, .int 0, .int 0, .int 0, .int 0, .int 0, .int 0, .ref y_cost, .ref y_away, .ref y_fee, .ref y_goesTo, .ref y_priceWas, .ref y_isKept, .ref y_kept, .ref y_trace, .int 0]))]) (b_runS (As := [.long (a.toInt64), .long 0, .long 1]) (c_X9_in_f l D cI cZ cC cS sq H.size (a.toInt64) 0 1 (fun z => by rw [l_lt (N := 0) rfl] at z; rw [l_gt (N := 1) rfl]; omega)) S gX9_image_X9_in rfl hdS_X9_in ⟨Nat.le_of_ble_eq_true rfl, Nat.le_of_ble_eq_true rfl⟩ ⟨Nat.le_of_ble_eq_true rfl, Nat.le_of_ble_eq_true rfl⟩ hK hP hD [] rfl (by decide) rfl hl.1 rfl (Nat.le_of_ble_eq_true rfl) dX9_image_9) hP hD hS hA [] [0] rfl rfl (by decide) (by decide) (fun r_1 w_2 H locs hw_3 hP hD hS => ?_)
  obtain ⟨rfl, rfl⟩ := hw_3
  have hP : va_P D vwCl [(y, .inr (9, [.int 0, .int 0, .ref y_lane, .ref y_many, .ref y_item, .ref y_city, .ref y_fresh, .int 0, .ref y_tape, .int 0, .int 0, .int 0, .int 0, .int 0, .int 0, .int 0, .int 0, .int 0, .int 0, .int 0, .ref y_cost, .ref y_away, .ref y_fee, .ref y_goesTo, .ref y_priceWas, .ref y_isKept, .ref y_kept, .ref y_trace, .int 0]))] H := hP
  have hD : va_D A [(y, .inr (9, [.int 0, .int 0, .ref y_lane, .ref y_many, .ref y_item, .ref y_city, .ref y_fresh, .int 0, .ref y_tape, .int 0, .int 0, .int 0, .int 0, .int 0, .int 0, .int 0, .int 0, .int 0, .int 0, .int 0, .ref y_cost, .ref y_away, .ref y_fee, .ref y_goesTo, .ref y_priceWas, .ref y_isKept, .ref y_kept, .ref y_trace, .int 0]))] := hD
  refine lv_if_ne (tgt := 18) S.1 S.2.1 dX9_image_12 (by decide) (fun c_4 => absurd c_4 (by decide)) (fun c_4 => ?_)
  refine lv_ldc (v := (-1000001)) S.1 S.2.1 S.2.2.2.1 (S.2.2.2.2 (.constant RX9 73 (-1000001)) (by decide +kernel)) dX9_image_15 ?_
  have hP := hP.sub (ws' := []) [] rfl
  have hD := hD.sub (ws' := []) [] (by decide) rfl
  exact b_iret S.1 S.2.1 X.2.1 X.2.2.1 hP hD hS ⟨rfl, rfl⟩ dX9_image_17
set_option maxHeartbeats 4000000 in
set_option maxRecDepth 100000 in
theorem c_X9_image_ok (l : Launch) (D : va_G) (cI cZ cC cS : ClassId) (sq sz : Nat) (y : Nat) (y_lane : Nat) (y_many : Nat) (y_item : Nat) (y_city : Nat) (y_fresh : Nat) (y_tape : Nat) (y_cost : Nat) (y_away : Nat) (y_fee : Nat) (y_goesTo : Nat) (y_priceWas : Nat) (y_isKept : Nat) (y_kept : Nat) (y_trace : Nat) (a : Int32) (hr : 0 ≤ a.toInt ∧ a.toInt ≤ 1) : mI l yX9_image wsX9_image 1 25 D (tyW cI cZ cC cS) sq [(y, .inr (9, [.int 0, .int 0, .ref y_lane, .ref y_many, .ref y_item, .ref y_city, .ref y_fresh, .int 0, .ref y_tape, .int 0, .int 0, .int 0, .int 0, .int 0, .int 0, .int 0, .int 0, .int 0, .int 0, .int 0, .ref y_cost, .ref y_away, .ref y_fee, .ref y_goesTo, .ref y_priceWas, .ref y_isKept, .ref y_kept, .ref y_trace, .int 0]))] sz [.ref y, .int a] (fun r w => r = -1000002 ∧ w = []) := by
  refine b_metI (cc := cX9_image) (maxL := 3) (ret := (some .int)) (by decide) rfl (Nat.le_of_ble_eq_true rfl) ?_
  intro p e s m below meth c ls A H X hsz hP hK hD hA hS hl
  have S : CallFix p m c cX9_image 3 s ([.ref y, .int a] : List Value).toArray wsX9_image RX9 := X.1
  have hl : lv_has ls 3 [(0, .ref y), (1, .int a)] := hl
  have iX9 := jX9_image_X9
  refine lv_aload_n S.1 S.2.1 dX9_image_0 rfl (lv_at hl 0 rfl) ?_
  refine lv_iconst (v := 0) S.1 S.2.1 dX9_image_1 (by decide) ?_
  refine b_put (v := .int 0) S iX9 tyX9 tyX9_ok nmX9 hK hP hD hS 0 rfl rfl 0 (by decide) (by decide +kernel) rfl rfl rfl (Nat.le_of_ble_eq_true rfl) dX9_image_2 (fun H locs hP hD hS => ?_)
  have hP : va_P D vwCl [(y, .inr (9, [.int 0, .int 0, .ref y_lane, .ref y_many, .ref y_item, .ref y_city, .ref y_fresh, .int 0, .ref y_tape, .int 0, .int 0, .int 0, .int 0, .int 0, .int 0, .int 0, .int 0, .int 0, .int 0, .int 0, .ref y_cost, .ref y_away, .ref y_fee, .ref y_goesTo, .ref y_priceWas, .ref y_isKept, .ref y_kept, .ref y_trace, .int 0]))] H := hP
  have hD : va_D A [(y, .inr (9, [.int 0, .int 0, .ref y_lane, .ref y_many, .ref y_item, .ref y_city, .ref y_fresh, .int 0, .ref y_tape, .int 0, .int 0, .int 0, .int 0, .int 0, .int 0, .int 0, .int 0, .int 0, .int 0, .int 0, .ref y_cost, .ref y_away, .ref y_fee, .ref y_goesTo, .ref y_priceWas, .ref y_isKept, .ref y_kept, .ref y_trace, .int 0]))] := hD
  refine lv_iload_n S.1 S.2.1 dX9_image_5 rfl (lv_at hl 1 rfl) ?_
  refine lv_i2l (v := a.toInt64) S.1 S.2.1 dX9_image_6 rfl ?_
  refine lv_lconst (v := 0) S.1 S.2.1 dX9_image_7 (by decide) ?_
  refine lv_lconst (v := 1) S.1 S.2.1 dX9_image_8 (by decide) ?_
  refine b_ai (wr := [(y, .inr (9, [.int 0, .int 0, .ref y_lane, .ref y_many, .ref y_item, .ref y_city, .ref y_fresh, .int 0, .ref y_tape, .int 0, .int 0, .int 0, .int 0, .int 0, .int 0, .int 0, .int 0, .int 0, .int 0, .int 0, .ref y_cost, .ref y_away, .ref y_fee, .ref y_goesTo, .ref y_priceWas, .ref y_isKept, .ref y_kept, .ref y_trace, .int 0]))]) (b_runS (As := [.long (a.toInt64), .long 0, .long 1]) (c_X9_in_t l D cI cZ cC cS sq H.size (a.toInt64) 0 1 (by rw [l_lt (N := 0) rfl]; omega) (by rw [l_gt (N := 1) rfl]; omega)) S gX9_image_X9_in rfl hdS_X9_in ⟨Nat.le_of_ble_eq_true rfl, Nat.le_of_ble_eq_true rfl⟩ ⟨Nat.le_of_ble_eq_true rfl, Nat.le_of_ble_eq_true rfl⟩ hK hP hD [] rfl (by decide) rfl hl.1 rfl (Nat.le_of_ble_eq_true rfl) dX9_image_9) hP hD hS hA [] [0] rfl rfl (by decide) (by decide) (fun r_1 w_2 H locs hw_3 hP hD hS => ?_)
  obtain ⟨rfl, rfl⟩ := hw_3
  have hP : va_P D vwCl [(y, .inr (9, [.int 0, .int 0, .ref y_lane, .ref y_many, .ref y_item, .ref y_city, .ref y_fresh, .int 0, .ref y_tape, .int 0, .int 0, .int 0, .int 0, .int 0, .int 0, .int 0, .int 0, .int 0, .int 0, .int 0, .ref y_cost, .ref y_away, .ref y_fee, .ref y_goesTo, .ref y_priceWas, .ref y_isKept, .ref y_kept, .ref y_trace, .int 0]))] H := hP
  have hD : va_D A [(y, .inr (9, [.int 0, .int 0, .ref y_lane, .ref y_many, .ref y_item, .ref y_city, .ref y_fresh, .int 0, .ref y_tape, .int 0, .int 0, .int 0, .int 0, .int 0, .int 0, .int 0, .int 0, .int 0, .int 0, .int 0, .ref y_cost, .ref y_away, .ref y_fee, .ref y_goesTo, .ref y_priceWas, .ref y_isKept, .ref y_kept, .ref y_trace, .int 0]))] := hD
  refine lv_if_ne (tgt := 18) S.1 S.2.1 dX9_image_12 (by decide) (fun c_4 => ?_) (fun c_4 => absurd c_4 (by decide))
  refine lv_aload_n S.1 S.2.1 dX9_image_18 rfl (lv_at hl 0 rfl) ?_
  refine b_get (v := .int 0) S iX9 hK hP 0 rfl rfl 7 (by decide) (by decide +kernel) rfl dX9_image_19 ?_
  refine lv_if_ne (tgt := 28) S.1 S.2.1 dX9_image_22 (by decide) (fun c_5 => absurd c_5 (by decide)) (fun c_5 => ?_)
  refine lv_ldc (v := (-1000002)) S.1 S.2.1 S.2.2.2.1 (S.2.2.2.2 (.constant RX9 233 (-1000002)) (by decide +kernel)) dX9_image_25 ?_
  have hP := hP.sub (ws' := []) [] rfl
  have hD := hD.sub (ws' := []) [] (by decide) rfl
  exact b_iret S.1 S.2.1 X.2.1 X.2.2.1 hP hD hS ⟨rfl, rfl⟩ dX9_image_27
set_option maxHeartbeats 4000000 in
set_option maxRecDepth 100000 in
theorem c_X9_restore_bad (l : Launch) (D : va_G) (cI cZ cC cS : ClassId) (sq sz : Nat) (y : Nat) (y_lane : Nat) (y_many : Nat) (y_item : Nat) (y_city : Nat) (y_fresh : Nat) (y_tape : Nat) (y_cost : Nat) (y_away : Nat) (y_fee : Nat) (y_goesTo : Nat) (y_priceWas : Nat) (y_isKept : Nat) (y_kept : Nat) (y_trace : Nat) (a : Int32) (hr : a.toInt < 0 ∨ 1 < a.toInt) : mI l yX9_restore wsX9_restore 1 25 D (tyW cI cZ cC cS) sq [(y, .inr (9, [.int 0, .int 0, .ref y_lane, .ref y_many, .ref y_item, .ref y_city, .ref y_fresh, .int 0, .ref y_tape, .int 0, .int 0, .int 0, .int 0, .int 0, .int 0, .int 0, .int 0, .int 0, .int 0, .int 0, .ref y_cost, .ref y_away, .ref y_fee, .ref y_goesTo, .ref y_priceWas, .ref y_isKept, .ref y_kept, .ref y_trace, .int 0]))] sz [.ref y, .int a] (fun r w => r = -1000001 ∧ w = []) := by
  refine b_metI (cc := cX9_restore) (maxL := 3) (ret := (some .int)) (by decide) rfl (Nat.le_of_ble_eq_true rfl) ?_
  intro p e s m below meth c ls A H X hsz hP hK hD hA hS hl
  have S : CallFix p m c cX9_restore 3 s ([.ref y, .int a] : List Value).toArray wsX9_restore RX9 := X.1
  have hl : lv_has ls 3 [(0, .ref y), (1, .int a)] := hl
  have iX9 := jX9_restore_X9
  refine lv_aload_n S.1 S.2.1 dX9_restore_0 rfl (lv_at hl 0 rfl) ?_
  refine lv_iconst (v := 0) S.1 S.2.1 dX9_restore_1 (by decide) ?_
  refine b_put (v := .int 0) S iX9 tyX9 tyX9_ok nmX9 hK hP hD hS 0 rfl rfl 0 (by decide) (by decide +kernel) rfl rfl rfl (Nat.le_of_ble_eq_true rfl) dX9_restore_2 (fun H locs hP hD hS => ?_)
  have hP : va_P D vwCl [(y, .inr (9, [.int 0, .int 0, .ref y_lane, .ref y_many, .ref y_item, .ref y_city, .ref y_fresh, .int 0, .ref y_tape, .int 0, .int 0, .int 0, .int 0, .int 0, .int 0, .int 0, .int 0, .int 0, .int 0, .int 0, .ref y_cost, .ref y_away, .ref y_fee, .ref y_goesTo, .ref y_priceWas, .ref y_isKept, .ref y_kept, .ref y_trace, .int 0]))] H := hP
  have hD : va_D A [(y, .inr (9, [.int 0, .int 0, .ref y_lane, .ref y_many, .ref y_item, .ref y_city, .ref y_fresh, .int 0, .ref y_tape, .int 0, .int 0, .int 0, .int 0, .int 0, .int 0, .int 0, .int 0, .int 0, .int 0, .int 0, .ref y_cost, .ref y_away, .ref y_fee, .ref y_goesTo, .ref y_priceWas, .ref y_isKept, .ref y_kept, .ref y_trace, .int 0]))] := hD
  refine lv_iload_n S.1 S.2.1 dX9_restore_5 rfl (lv_at hl 1 rfl) ?_
  refine lv_i2l (v := a.toInt64) S.1 S.2.1 dX9_restore_6 rfl ?_
  refine lv_lconst (v := 0) S.1 S.2.1 dX9_restore_7 (by decide) ?_
  refine lv_lconst (v := 1) S.1 S.2.1 dX9_restore_8 (by decide) ?_
  refine b_ai (wr := [(y, .inr (9, [.int 0, .int 0, .ref y_lane, .ref y_many, .ref y_item, .ref y_city, .ref y_fresh, .int 0, .ref y_tape, .int 0, .int 0, .int 0, .int 0, .int 0, .int 0, .int 0, .int 0, .int 0, .int 0, .int 0, .ref y_cost, .ref y_away, .ref y_fee, .ref y_goesTo, .ref y_priceWas, .ref y_isKept, .ref y_kept, .ref y_trace, .int 0]))]) (b_runS (As := [.long (a.toInt64), .long 0, .long 1]) (c_X9_in_f l D cI cZ cC cS sq H.size (a.toInt64) 0 1 (fun z => by rw [l_lt (N := 0) rfl] at z; rw [l_gt (N := 1) rfl]; omega)) S gX9_restore_X9_in rfl hdS_X9_in ⟨Nat.le_of_ble_eq_true rfl, Nat.le_of_ble_eq_true rfl⟩ ⟨Nat.le_of_ble_eq_true rfl, Nat.le_of_ble_eq_true rfl⟩ hK hP hD [] rfl (by decide) rfl hl.1 rfl (Nat.le_of_ble_eq_true rfl) dX9_restore_9) hP hD hS hA [] [0] rfl rfl (by decide) (by decide) (fun r_1 w_2 H locs hw_3 hP hD hS => ?_)
  obtain ⟨rfl, rfl⟩ := hw_3
  have hP : va_P D vwCl [(y, .inr (9, [.int 0, .int 0, .ref y_lane, .ref y_many, .ref y_item, .ref y_city, .ref y_fresh, .int 0, .ref y_tape, .int 0, .int 0, .int 0, .int 0, .int 0, .int 0, .int 0, .int 0, .int 0, .int 0, .int 0, .ref y_cost, .ref y_away, .ref y_fee, .ref y_goesTo, .ref y_priceWas, .ref y_isKept, .ref y_kept, .ref y_trace, .int 0]))] H := hP
  have hD : va_D A [(y, .inr (9, [.int 0, .int 0, .ref y_lane, .ref y_many, .ref y_item, .ref y_city, .ref y_fresh, .int 0, .ref y_tape, .int 0, .int 0, .int 0, .int 0, .int 0, .int 0, .int 0, .int 0, .int 0, .int 0, .int 0, .ref y_cost, .ref y_away, .ref y_fee, .ref y_goesTo, .ref y_priceWas, .ref y_isKept, .ref y_kept, .ref y_trace, .int 0]))] := hD
  refine lv_if_ne (tgt := 18) S.1 S.2.1 dX9_restore_12 (by decide) (fun c_4 => absurd c_4 (by decide)) (fun c_4 => ?_)
  refine lv_ldc (v := (-1000001)) S.1 S.2.1 S.2.2.2.1 (S.2.2.2.2 (.constant RX9 73 (-1000001)) (by decide +kernel)) dX9_restore_15 ?_
  have hP := hP.sub (ws' := []) [] rfl
  have hD := hD.sub (ws' := []) [] (by decide) rfl
  exact b_iret S.1 S.2.1 X.2.1 X.2.2.1 hP hD hS ⟨rfl, rfl⟩ dX9_restore_17
set_option maxHeartbeats 4000000 in
set_option maxRecDepth 100000 in
theorem c_X9_restore_ok (l : Launch) (D : va_G) (cI cZ cC cS : ClassId) (sq sz : Nat) (y : Nat) (y_lane : Nat) (y_many : Nat) (y_item : Nat) (y_city : Nat) (y_fresh : Nat) (y_tape : Nat) (y_cost : Nat) (y_away : Nat) (y_fee : Nat) (y_goesTo : Nat) (y_priceWas : Nat) (y_isKept : Nat) (y_kept : Nat) (y_trace : Nat) (a : Int32) (hr : 0 ≤ a.toInt ∧ a.toInt ≤ 1) : mI l yX9_restore wsX9_restore 1 25 D (tyW cI cZ cC cS) sq [(y, .inr (9, [.int 0, .int 0, .ref y_lane, .ref y_many, .ref y_item, .ref y_city, .ref y_fresh, .int 0, .ref y_tape, .int 0, .int 0, .int 0, .int 0, .int 0, .int 0, .int 0, .int 0, .int 0, .int 0, .int 0, .ref y_cost, .ref y_away, .ref y_fee, .ref y_goesTo, .ref y_priceWas, .ref y_isKept, .ref y_kept, .ref y_trace, .int 0])), (y_isKept, .inl (cZ, 2, .inl (fun _ => 0)))] sz [.ref y, .int a] (fun r w => r = -1000002 ∧ w = []) := by
  refine b_metI (cc := cX9_restore) (maxL := 3) (ret := (some .int)) (by decide) rfl (Nat.le_of_ble_eq_true rfl) ?_
  intro p e s m below meth c ls A H X hsz hP hK hD hA hS hl
  have S : CallFix p m c cX9_restore 3 s ([.ref y, .int a] : List Value).toArray wsX9_restore RX9 := X.1
  have hl : lv_has ls 3 [(0, .ref y), (1, .int a)] := hl
  have iX9 := jX9_restore_X9
  refine lv_aload_n S.1 S.2.1 dX9_restore_0 rfl (lv_at hl 0 rfl) ?_
  refine lv_iconst (v := 0) S.1 S.2.1 dX9_restore_1 (by decide) ?_
  refine b_put (v := .int 0) S iX9 tyX9 tyX9_ok nmX9 hK hP hD hS 0 rfl rfl 0 (by decide) (by decide +kernel) rfl rfl rfl (Nat.le_of_ble_eq_true rfl) dX9_restore_2 (fun H locs hP hD hS => ?_)
  have hP : va_P D vwCl [(y, .inr (9, [.int 0, .int 0, .ref y_lane, .ref y_many, .ref y_item, .ref y_city, .ref y_fresh, .int 0, .ref y_tape, .int 0, .int 0, .int 0, .int 0, .int 0, .int 0, .int 0, .int 0, .int 0, .int 0, .int 0, .ref y_cost, .ref y_away, .ref y_fee, .ref y_goesTo, .ref y_priceWas, .ref y_isKept, .ref y_kept, .ref y_trace, .int 0])), (y_isKept, .inl (cZ, 2, .inl (fun _ => 0)))] H := hP
  have hD : va_D A [(y, .inr (9, [.int 0, .int 0, .ref y_lane, .ref y_many, .ref y_item, .ref y_city, .ref y_fresh, .int 0, .ref y_tape, .int 0, .int 0, .int 0, .int 0, .int 0, .int 0, .int 0, .int 0, .int 0, .int 0, .int 0, .ref y_cost, .ref y_away, .ref y_fee, .ref y_goesTo, .ref y_priceWas, .ref y_isKept, .ref y_kept, .ref y_trace, .int 0])), (y_isKept, .inl (cZ, 2, .inl (fun _ => 0)))] := hD
  refine lv_iload_n S.1 S.2.1 dX9_restore_5 rfl (lv_at hl 1 rfl) ?_
  refine lv_i2l (v := a.toInt64) S.1 S.2.1 dX9_restore_6 rfl ?_
  refine lv_lconst (v := 0) S.1 S.2.1 dX9_restore_7 (by decide) ?_
  refine lv_lconst (v := 1) S.1 S.2.1 dX9_restore_8 (by decide) ?_
  refine b_ai (wr := [(y, .inr (9, [.int 0, .int 0, .ref y_lane, .ref y_many, .ref y_item, .ref y_city, .ref y_fresh, .int 0, .ref y_tape, .int 0, .int 0, .int 0, .int 0, .int 0, .int 0, .int 0, .int 0, .int 0, .int 0, .int 0, .ref y_cost, .ref y_away, .ref y_fee, .ref y_goesTo, .ref y_priceWas, .ref y_isKept, .ref y_kept, .ref y_trace, .int 0])), (y_isKept, .inl (cZ, 2, .inl (fun _ => 0)))]) (b_runS (As := [.long (a.toInt64), .long 0, .long 1]) (c_X9_in_t l D cI cZ cC cS sq H.size (a.toInt64) 0 1 (by rw [l_lt (N := 0) rfl]; omega) (by rw [l_gt (N := 1) rfl]; omega)) S gX9_restore_X9_in rfl hdS_X9_in ⟨Nat.le_of_ble_eq_true rfl, Nat.le_of_ble_eq_true rfl⟩ ⟨Nat.le_of_ble_eq_true rfl, Nat.le_of_ble_eq_true rfl⟩ hK hP hD [] rfl (by decide) rfl hl.1 rfl (Nat.le_of_ble_eq_true rfl) dX9_restore_9) hP hD hS hA [] [0, 1] rfl rfl (by decide) (by decide) (fun r_1 w_2 H locs hw_3 hP hD hS => ?_)
  obtain ⟨rfl, rfl⟩ := hw_3
  have hP : va_P D vwCl [(y, .inr (9, [.int 0, .int 0, .ref y_lane, .ref y_many, .ref y_item, .ref y_city, .ref y_fresh, .int 0, .ref y_tape, .int 0, .int 0, .int 0, .int 0, .int 0, .int 0, .int 0, .int 0, .int 0, .int 0, .int 0, .ref y_cost, .ref y_away, .ref y_fee, .ref y_goesTo, .ref y_priceWas, .ref y_isKept, .ref y_kept, .ref y_trace, .int 0])), (y_isKept, .inl (cZ, 2, .inl (fun _ => 0)))] H := hP
  have hD : va_D A [(y, .inr (9, [.int 0, .int 0, .ref y_lane, .ref y_many, .ref y_item, .ref y_city, .ref y_fresh, .int 0, .ref y_tape, .int 0, .int 0, .int 0, .int 0, .int 0, .int 0, .int 0, .int 0, .int 0, .int 0, .int 0, .ref y_cost, .ref y_away, .ref y_fee, .ref y_goesTo, .ref y_priceWas, .ref y_isKept, .ref y_kept, .ref y_trace, .int 0])), (y_isKept, .inl (cZ, 2, .inl (fun _ => 0)))] := hD
  refine lv_if_ne (tgt := 18) S.1 S.2.1 dX9_restore_12 (by decide) (fun c_4 => ?_) (fun c_4 => absurd c_4 (by decide))
  refine lv_aload_n S.1 S.2.1 dX9_restore_18 rfl (lv_at hl 0 rfl) ?_
  refine b_get (v := .ref y_isKept) S iX9 hK hP 0 rfl rfl 25 (by decide) (by decide +kernel) rfl dX9_restore_19 ?_
  refine lv_iload_n S.1 S.2.1 dX9_restore_22 rfl (lv_at hl 1 rfl) ?_
  refine va_zald S.1 S.2.1 hK.1 hP 1 1 rfl rfl (in_of (n := 2) (by omega) (by omega)) dX9_restore_23 ?_
  refine lv_topi (fun x_5 ex_5 => ?_)
  have ex_5 : x_5 = 0 := by exact ex_5
  subst ex_5
  refine lv_if_ne (tgt := 30) S.1 S.2.1 dX9_restore_24 (by decide) (fun c_6 => absurd c_6 (by decide)) (fun c_6 => ?_)
  refine lv_ldc (v := (-1000002)) S.1 S.2.1 S.2.2.2.1 (S.2.2.2.2 (.constant RX9 233 (-1000002)) (by decide +kernel)) dX9_restore_27 ?_
  have hP := hP.sub (ws' := []) [] rfl
  have hD := hD.sub (ws' := []) [] (by decide) rfl
  exact b_iret S.1 S.2.1 X.2.1 X.2.2.1 hP hD hS ⟨rfl, rfl⟩ dX9_restore_29
set_option maxHeartbeats 4000000 in
set_option maxRecDepth 100000 in
theorem lp_X9_howMany_0 {p : Program} (l : Launch) {e : Env} {s : State} {m : MethodId} {below : List Frame} {meth : Method} {c : Code} (D : va_G) (cI cZ cC cS : ClassId) (sq : Nat) (y : Nat) (y_lane : Nat) (y_many : Nat) (y_item : Nat) (y_city : Nat) (y_fresh : Nat) (y_tape : Nat) (y_cost : Nat) (y_away : Nat) (y_fee : Nat) (y_goesTo : Nat) (y_priceWas : Nat) (y_isKept : Nat) (y_kept : Nat) (y_trace : Nat) {A : Nat → Prop} (X : bX p s m meth c cX9_howMany 5 wsX9_howMany yX9_howMany (some .int) [.ref y, .int 0]) (hK : kW D (tyW cI cZ cC cS) sq s) (hA : ∀ q, s.heap.size ≤ q → A q) :
    ∀ (k i : Nat), i + k = 80 → ∀ (H : Heap) (locs : List Loc) (ls : Array Slot), va_P D vwCl [(y, .inr (9, [.int 0, .int 0, .ref y_lane, .ref y_many, .ref y_item, .ref y_city, .ref y_fresh, .int 0, .ref y_tape, .int 0, .int 0, .int 0, .int 0, .int 0, .int 0, .int 0, .int 0, .int 0, .int 0, .int 0, .ref y_cost, .ref y_away, .ref y_fee, .ref y_goesTo, .ref y_priceWas, .ref y_isKept, .ref y_kept, .ref y_trace, .int 0])), (y_city, .inl (cI, 192, .inl (fun _ => 0)))] H → va_D A [(y, .inr (9, [.int 0, .int 0, .ref y_lane, .ref y_many, .ref y_item, .ref y_city, .ref y_fresh, .int 0, .ref y_tape, .int 0, .int 0, .int 0, .int 0, .int 0, .int 0, .int 0, .int 0, .int 0, .int 0, .int 0, .ref y_cost, .ref y_away, .ref y_fee, .ref y_goesTo, .ref y_priceWas, .ref y_isKept, .ref y_kept, .ref y_trace, .int 0])), (y_city, .inl (cI, 192, .inl (fun _ => 0)))] → va_S A s.heap H locs → lv_has ls 5 [(3, .int (nI i)), (2, .int 0), (0, .ref y), (1, .int 0)] →
      W p l e (rmW 3 81 0 0) s m ([.ref y, .int 0] : List Value).toArray below meth c H locs 0 0 (MQ below (va_Qi (fun r w => r = 0 ∧ w = []) (wD D A) A) ([.ref y, .int 0] : List Value).toArray s 0 0 A) (F0 m 4 ls []) := by
  have S : CallFix p m c cX9_howMany 5 s ([.ref y, .int 0] : List Value).toArray wsX9_howMany RX9 := X.1
  have iX9 := jX9_howMany_X9
  intro k
  induction k with
  | zero =>
    intro i hi H locs ls hP hD hS hl
    obtain rfl : i = 80 := by omega
    refine lv_iload_n S.1 S.2.1 dX9_howMany_4 rfl (lv_at hl 0 rfl) ?_
    refine lv_bipush (v := 80) S.1 S.2.1 dX9_howMany_5 (by decide) ?_
    refine lv_icmp_ge (tgt := 60) S.1 S.2.1 dX9_howMany_7 (by decide) (fun c_1 => ?_) (fun c_1 => absurd (show (80 : Int32) ≤ nI 80 from by decide) c_1)
    refine lv_iload_n S.1 S.2.1 dX9_howMany_60 rfl (lv_at hl 1 rfl) ?_
    have hP := hP.sub (ws' := []) [] rfl
    have hD := hD.sub (ws' := []) [] (by decide) rfl
    exact b_iret S.1 S.2.1 X.2.1 X.2.2.1 hP hD hS ⟨rfl, rfl⟩ dX9_howMany_61
  | succ k ih =>
    intro i hi H locs ls hP hD hS hl
    have hlt : i < 80 := by omega
    refine lv_iload_n S.1 S.2.1 dX9_howMany_4 rfl (lv_at hl 0 rfl) ?_
    refine lv_bipush (v := 80) S.1 S.2.1 dX9_howMany_5 (by decide) ?_
    refine lv_icmp_ge (tgt := 60) S.1 S.2.1 dX9_howMany_7 (by decide) (fun c_1 => absurd c_1 (nI_ge (b := 80) hlt (by decide))) (fun c_1 => ?_)
    refine lv_aload_n S.1 S.2.1 dX9_howMany_10 rfl (lv_at hl 2 rfl) ?_
    refine b_get (v := .ref y_city) S iX9 hK hP 0 rfl rfl 5 (by decide) (by decide +kernel) rfl dX9_howMany_11 ?_
    refine lv_iconst (v := 4) S.1 S.2.1 dX9_howMany_14 (by decide) ?_
    refine lv_iload_n S.1 S.2.1 dX9_howMany_15 rfl (lv_at hl 0 rfl) ?_
    refine lv_iadd S.1 S.2.1 dX9_howMany_16 ?_
    refine lv_topi (fun x_2 ex_2 => ?_)
    refine va_iald S.1 S.2.1 hK.1 hP 1 0 rfl rfl (by rw [ex_2]; exact in84 hlt) dX9_howMany_17 ?_
    refine lv_topi (fun x_3 ex_3 => ?_)
    have ex_3 : x_3 = 0 := by exact ex_3
    subst ex_3
    refine lv_istore (lv' := [(4, .int 0), (3, .int (nI i)), (2, .int 0), (0, .ref y), (1, .int 0)]) S.1 S.2.1 dX9_howMany_18 hl (by decide) rfl (fun ls hl => ?_)
    refine lv_iload_n S.1 S.2.1 dX9_howMany_20 rfl (lv_at hl 2 rfl) ?_
    refine lv_aload_n S.1 S.2.1 dX9_howMany_21 rfl (lv_at hl 3 rfl) ?_
    refine lv_iload_n S.1 S.2.1 dX9_howMany_22 rfl (lv_at hl 1 rfl) ?_
    refine b_ai (wr := []) (b_runV (q0 := 0) (ci := 9) (As := [.int (nI i)]) (c_X9_isCell l D cI cZ cC cS sq H.size y y_lane y_many y_item y_city y_fresh y_tape y_cost y_away y_fee y_goesTo y_priceWas y_isKept y_kept y_trace (nI i)) S gX9_howMany_X9_isCell rfl hdV_X9_isCell ⟨Nat.le_of_ble_eq_true rfl, Nat.le_of_ble_eq_true rfl⟩ ⟨Nat.le_of_ble_eq_true rfl, Nat.le_of_ble_eq_true rfl⟩ hK hP hD rfl rfl [0, 1] rfl (by decide) rfl hl.1 rfl (Nat.le_of_ble_eq_true rfl) dX9_howMany_23) hP hD hS hA [0, 1] [] rfl rfl (by decide) (by decide) (fun r_4 w_5 H locs hw_6 hP hD hS => ?_)
    obtain ⟨rfl, rfl⟩ := hw_6
    have hP : va_P D vwCl [(y, .inr (9, [.int 0, .int 0, .ref y_lane, .ref y_many, .ref y_item, .ref y_city, .ref y_fresh, .int 0, .ref y_tape, .int 0, .int 0, .int 0, .int 0, .int 0, .int 0, .int 0, .int 0, .int 0, .int 0, .int 0, .ref y_cost, .ref y_away, .ref y_fee, .ref y_goesTo, .ref y_priceWas, .ref y_isKept, .ref y_kept, .ref y_trace, .int 0])), (y_city, .inl (cI, 192, .inl (fun _ => 0)))] H := hP
    have hD : va_D A [(y, .inr (9, [.int 0, .int 0, .ref y_lane, .ref y_many, .ref y_item, .ref y_city, .ref y_fresh, .int 0, .ref y_tape, .int 0, .int 0, .int 0, .int 0, .int 0, .int 0, .int 0, .int 0, .int 0, .int 0, .int 0, .ref y_cost, .ref y_away, .ref y_fee, .ref y_goesTo, .ref y_priceWas, .ref y_isKept, .ref y_kept, .ref y_trace, .int 0])), (y_city, .inl (cI, 192, .inl (fun _ => 0)))] := hD
    refine lv_if_eq (tgt := 51) S.1 S.2.1 dX9_howMany_26 (by decide) (fun c_7 => ?_) (fun c_7 => absurd c_7 (by decide))
    refine lv_iconst (v := 0) S.1 S.2.1 dX9_howMany_51 (by decide) ?_
    refine lv_iadd S.1 S.2.1 dX9_howMany_52 ?_
    refine lv_topi (fun x_8 ex_8 => ?_)
    have ex_8 : x_8 = 0 := by rw [ex_8]; decide
    subst ex_8
    refine lv_istore_n (lv' := [(2, .int 0), (4, .int 0), (3, .int (nI i)), (0, .ref y), (1, .int 0)]) S.1 S.2.1 dX9_howMany_53 rfl hl (by decide) rfl (fun ls hl => ?_)
    refine lv_iinc (v := nI (i + 1)) (lv' := [(3, .int (nI (i + 1))), (2, .int 0), (4, .int 0), (0, .ref y), (1, .int 0)]) S.1 S.2.1 dX9_howMany_54 hl (k := 2) rfl (nI_1 i) (by decide) rfl (fun ls hl => ?_)
    refine lv_goto (tgt := 4) S.1 S.2.1 dX9_howMany_57 (by decide) ?_
    exact ih (i + 1) (by omega) H locs ls hP hD hS (lv_sub hl [0, 1, 3, 4] rfl)
set_option maxHeartbeats 4000000 in
set_option maxRecDepth 100000 in
theorem c_X9_howMany_0 (l : Launch) (D : va_G) (cI cZ cC cS : ClassId) (sq sz : Nat) (y : Nat) (y_lane : Nat) (y_many : Nat) (y_item : Nat) (y_city : Nat) (y_fresh : Nat) (y_tape : Nat) (y_cost : Nat) (y_away : Nat) (y_fee : Nat) (y_goesTo : Nat) (y_priceWas : Nat) (y_isKept : Nat) (y_kept : Nat) (y_trace : Nat) : mI l yX9_howMany wsX9_howMany 3 81 D (tyW cI cZ cC cS) sq [(y, .inr (9, [.int 0, .int 0, .ref y_lane, .ref y_many, .ref y_item, .ref y_city, .ref y_fresh, .int 0, .ref y_tape, .int 0, .int 0, .int 0, .int 0, .int 0, .int 0, .int 0, .int 0, .int 0, .int 0, .int 0, .ref y_cost, .ref y_away, .ref y_fee, .ref y_goesTo, .ref y_priceWas, .ref y_isKept, .ref y_kept, .ref y_trace, .int 0])), (y_city, .inl (cI, 192, .inl (fun _ => 0)))] sz [.ref y, .int 0] (fun r w => r = 0 ∧ w = []) := by
  refine b_metI (cc := cX9_howMany) (maxL := 5) (ret := (some .int)) (by decide) rfl (Nat.le_of_ble_eq_true rfl) ?_
  intro p e s m below meth c ls A H X hsz hP hK hD hA hS hl
  have S : CallFix p m c cX9_howMany 5 s ([.ref y, .int 0] : List Value).toArray wsX9_howMany RX9 := X.1
  have hl : lv_has ls 5 [(0, .ref y), (1, .int 0)] := hl
  refine lv_iconst (v := 0) S.1 S.2.1 dX9_howMany_0 (by decide) ?_
  refine lv_istore_n (lv' := [(2, .int 0), (0, .ref y), (1, .int 0)]) S.1 S.2.1 dX9_howMany_1 rfl hl (by decide) rfl (fun ls hl => ?_)
  refine lv_iconst (v := 0) S.1 S.2.1 dX9_howMany_2 (by decide) ?_
  refine lv_istore_n (lv' := [(3, .int 0), (2, .int 0), (0, .ref y), (1, .int 0)]) S.1 S.2.1 dX9_howMany_3 rfl hl (by decide) rfl (fun ls hl => ?_)
  exact lp_X9_howMany_0 l D cI cZ cC cS sq y y_lane y_many y_item y_city y_fresh y_tape y_cost y_away y_fee y_goesTo y_priceWas y_isKept y_kept y_trace X hK hA 80 0 (by omega) H _ ls hP hD hS (lv_sub hl [0, 1, 2, 3] rfl)
set_option maxHeartbeats 4000000 in
set_option maxRecDepth 100000 in
theorem lp_X9_howMany_1 {p : Program} (l : Launch) {e : Env} {s : State} {m : MethodId} {below : List Frame} {meth : Method} {c : Code} (D : va_G) (cI cZ cC cS : ClassId) (sq : Nat) (y : Nat) (y_lane : Nat) (y_many : Nat) (y_item : Nat) (y_city : Nat) (y_fresh : Nat) (y_tape : Nat) (y_cost : Nat) (y_away : Nat) (y_fee : Nat) (y_goesTo : Nat) (y_priceWas : Nat) (y_isKept : Nat) (y_kept : Nat) (y_trace : Nat) {A : Nat → Prop} (X : bX p s m meth c cX9_howMany 5 wsX9_howMany yX9_howMany (some .int) [.ref y, .int 1]) (hK : kW D (tyW cI cZ cC cS) sq s) (hA : ∀ q, s.heap.size ≤ q → A q) :
    ∀ (k i : Nat), i + k = 80 → ∀ (H : Heap) (locs : List Loc) (ls : Array Slot), va_P D vwCl [(y, .inr (9, [.int 0, .int 0, .ref y_lane, .ref y_many, .ref y_item, .ref y_city, .ref y_fresh, .int 0, .ref y_tape, .int 0, .int 0, .int 0, .int 0, .int 0, .int 0, .int 0, .int 0, .int 0, .int 0, .int 0, .ref y_cost, .ref y_away, .ref y_fee, .ref y_goesTo, .ref y_priceWas, .ref y_isKept, .ref y_kept, .ref y_trace, .int 0])), (y_city, .inl (cI, 192, .inl (fun _ => 0)))] H → va_D A [(y, .inr (9, [.int 0, .int 0, .ref y_lane, .ref y_many, .ref y_item, .ref y_city, .ref y_fresh, .int 0, .ref y_tape, .int 0, .int 0, .int 0, .int 0, .int 0, .int 0, .int 0, .int 0, .int 0, .int 0, .int 0, .ref y_cost, .ref y_away, .ref y_fee, .ref y_goesTo, .ref y_priceWas, .ref y_isKept, .ref y_kept, .ref y_trace, .int 0])), (y_city, .inl (cI, 192, .inl (fun _ => 0)))] → va_S A s.heap H locs → lv_has ls 5 [(3, .int (nI i)), (2, .int 0), (0, .ref y), (1, .int 1)] →
      W p l e (rmW 3 81 0 0) s m ([.ref y, .int 1] : List Value).toArray below meth c H locs 0 0 (MQ below (va_Qi (fun r w => r = 0 ∧ w = []) (wD D A) A) ([.ref y, .int 1] : List Value).toArray s 0 0 A) (F0 m 4 ls []) := by
  have S : CallFix p m c cX9_howMany 5 s ([.ref y, .int 1] : List Value).toArray wsX9_howMany RX9 := X.1
  have iX9 := jX9_howMany_X9
  intro k
  induction k with
  | zero =>
    intro i hi H locs ls hP hD hS hl
    obtain rfl : i = 80 := by omega
    refine lv_iload_n S.1 S.2.1 dX9_howMany_4 rfl (lv_at hl 0 rfl) ?_
    refine lv_bipush (v := 80) S.1 S.2.1 dX9_howMany_5 (by decide) ?_
    refine lv_icmp_ge (tgt := 60) S.1 S.2.1 dX9_howMany_7 (by decide) (fun c_1 => ?_) (fun c_1 => absurd (show (80 : Int32) ≤ nI 80 from by decide) c_1)
    refine lv_iload_n S.1 S.2.1 dX9_howMany_60 rfl (lv_at hl 1 rfl) ?_
    have hP := hP.sub (ws' := []) [] rfl
    have hD := hD.sub (ws' := []) [] (by decide) rfl
    exact b_iret S.1 S.2.1 X.2.1 X.2.2.1 hP hD hS ⟨rfl, rfl⟩ dX9_howMany_61
  | succ k ih =>
    intro i hi H locs ls hP hD hS hl
    have hlt : i < 80 := by omega
    refine lv_iload_n S.1 S.2.1 dX9_howMany_4 rfl (lv_at hl 0 rfl) ?_
    refine lv_bipush (v := 80) S.1 S.2.1 dX9_howMany_5 (by decide) ?_
    refine lv_icmp_ge (tgt := 60) S.1 S.2.1 dX9_howMany_7 (by decide) (fun c_1 => absurd c_1 (nI_ge (b := 80) hlt (by decide))) (fun c_1 => ?_)
    refine lv_aload_n S.1 S.2.1 dX9_howMany_10 rfl (lv_at hl 2 rfl) ?_
    refine b_get (v := .ref y_city) S iX9 hK hP 0 rfl rfl 5 (by decide) (by decide +kernel) rfl dX9_howMany_11 ?_
    refine lv_iconst (v := 4) S.1 S.2.1 dX9_howMany_14 (by decide) ?_
    refine lv_iload_n S.1 S.2.1 dX9_howMany_15 rfl (lv_at hl 0 rfl) ?_
    refine lv_iadd S.1 S.2.1 dX9_howMany_16 ?_
    refine lv_topi (fun x_2 ex_2 => ?_)
    refine va_iald S.1 S.2.1 hK.1 hP 1 0 rfl rfl (by rw [ex_2]; exact in84 hlt) dX9_howMany_17 ?_
    refine lv_topi (fun x_3 ex_3 => ?_)
    have ex_3 : x_3 = 0 := by exact ex_3
    subst ex_3
    refine lv_istore (lv' := [(4, .int 0), (3, .int (nI i)), (2, .int 0), (0, .ref y), (1, .int 1)]) S.1 S.2.1 dX9_howMany_18 hl (by decide) rfl (fun ls hl => ?_)
    refine lv_iload_n S.1 S.2.1 dX9_howMany_20 rfl (lv_at hl 2 rfl) ?_
    refine lv_aload_n S.1 S.2.1 dX9_howMany_21 rfl (lv_at hl 3 rfl) ?_
    refine lv_iload_n S.1 S.2.1 dX9_howMany_22 rfl (lv_at hl 1 rfl) ?_
    refine b_ai (wr := []) (b_runV (q0 := 0) (ci := 9) (As := [.int (nI i)]) (c_X9_isCell l D cI cZ cC cS sq H.size y y_lane y_many y_item y_city y_fresh y_tape y_cost y_away y_fee y_goesTo y_priceWas y_isKept y_kept y_trace (nI i)) S gX9_howMany_X9_isCell rfl hdV_X9_isCell ⟨Nat.le_of_ble_eq_true rfl, Nat.le_of_ble_eq_true rfl⟩ ⟨Nat.le_of_ble_eq_true rfl, Nat.le_of_ble_eq_true rfl⟩ hK hP hD rfl rfl [0, 1] rfl (by decide) rfl hl.1 rfl (Nat.le_of_ble_eq_true rfl) dX9_howMany_23) hP hD hS hA [0, 1] [] rfl rfl (by decide) (by decide) (fun r_4 w_5 H locs hw_6 hP hD hS => ?_)
    obtain ⟨rfl, rfl⟩ := hw_6
    have hP : va_P D vwCl [(y, .inr (9, [.int 0, .int 0, .ref y_lane, .ref y_many, .ref y_item, .ref y_city, .ref y_fresh, .int 0, .ref y_tape, .int 0, .int 0, .int 0, .int 0, .int 0, .int 0, .int 0, .int 0, .int 0, .int 0, .int 0, .ref y_cost, .ref y_away, .ref y_fee, .ref y_goesTo, .ref y_priceWas, .ref y_isKept, .ref y_kept, .ref y_trace, .int 0])), (y_city, .inl (cI, 192, .inl (fun _ => 0)))] H := hP
    have hD : va_D A [(y, .inr (9, [.int 0, .int 0, .ref y_lane, .ref y_many, .ref y_item, .ref y_city, .ref y_fresh, .int 0, .ref y_tape, .int 0, .int 0, .int 0, .int 0, .int 0, .int 0, .int 0, .int 0, .int 0, .int 0, .int 0, .ref y_cost, .ref y_away, .ref y_fee, .ref y_goesTo, .ref y_priceWas, .ref y_isKept, .ref y_kept, .ref y_trace, .int 0])), (y_city, .inl (cI, 192, .inl (fun _ => 0)))] := hD
    refine lv_if_eq (tgt := 51) S.1 S.2.1 dX9_howMany_26 (by decide) (fun c_7 => ?_) (fun c_7 => absurd c_7 (by decide))
    refine lv_iconst (v := 0) S.1 S.2.1 dX9_howMany_51 (by decide) ?_
    refine lv_iadd S.1 S.2.1 dX9_howMany_52 ?_
    refine lv_topi (fun x_8 ex_8 => ?_)
    have ex_8 : x_8 = 0 := by rw [ex_8]; decide
    subst ex_8
    refine lv_istore_n (lv' := [(2, .int 0), (4, .int 0), (3, .int (nI i)), (0, .ref y), (1, .int 1)]) S.1 S.2.1 dX9_howMany_53 rfl hl (by decide) rfl (fun ls hl => ?_)
    refine lv_iinc (v := nI (i + 1)) (lv' := [(3, .int (nI (i + 1))), (2, .int 0), (4, .int 0), (0, .ref y), (1, .int 1)]) S.1 S.2.1 dX9_howMany_54 hl (k := 2) rfl (nI_1 i) (by decide) rfl (fun ls hl => ?_)
    refine lv_goto (tgt := 4) S.1 S.2.1 dX9_howMany_57 (by decide) ?_
    exact ih (i + 1) (by omega) H locs ls hP hD hS (lv_sub hl [0, 1, 3, 4] rfl)
set_option maxHeartbeats 4000000 in
set_option maxRecDepth 100000 in
theorem c_X9_howMany_1 (l : Launch) (D : va_G) (cI cZ cC cS : ClassId) (sq sz : Nat) (y : Nat) (y_lane : Nat) (y_many : Nat) (y_item : Nat) (y_city : Nat) (y_fresh : Nat) (y_tape : Nat) (y_cost : Nat) (y_away : Nat) (y_fee : Nat) (y_goesTo : Nat) (y_priceWas : Nat) (y_isKept : Nat) (y_kept : Nat) (y_trace : Nat) : mI l yX9_howMany wsX9_howMany 3 81 D (tyW cI cZ cC cS) sq [(y, .inr (9, [.int 0, .int 0, .ref y_lane, .ref y_many, .ref y_item, .ref y_city, .ref y_fresh, .int 0, .ref y_tape, .int 0, .int 0, .int 0, .int 0, .int 0, .int 0, .int 0, .int 0, .int 0, .int 0, .int 0, .ref y_cost, .ref y_away, .ref y_fee, .ref y_goesTo, .ref y_priceWas, .ref y_isKept, .ref y_kept, .ref y_trace, .int 0])), (y_city, .inl (cI, 192, .inl (fun _ => 0)))] sz [.ref y, .int 1] (fun r w => r = 0 ∧ w = []) := by
  refine b_metI (cc := cX9_howMany) (maxL := 5) (ret := (some .int)) (by decide) rfl (Nat.le_of_ble_eq_true rfl) ?_
  intro p e s m below meth c ls A H X hsz hP hK hD hA hS hl
  have S : CallFix p m c cX9_howMany 5 s ([.ref y, .int 1] : List Value).toArray wsX9_howMany RX9 := X.1
  have hl : lv_has ls 5 [(0, .ref y), (1, .int 1)] := hl
  refine lv_iconst (v := 0) S.1 S.2.1 dX9_howMany_0 (by decide) ?_
  refine lv_istore_n (lv' := [(2, .int 0), (0, .ref y), (1, .int 1)]) S.1 S.2.1 dX9_howMany_1 rfl hl (by decide) rfl (fun ls hl => ?_)
  refine lv_iconst (v := 0) S.1 S.2.1 dX9_howMany_2 (by decide) ?_
  refine lv_istore_n (lv' := [(3, .int 0), (2, .int 0), (0, .ref y), (1, .int 1)]) S.1 S.2.1 dX9_howMany_3 rfl hl (by decide) rfl (fun ls hl => ?_)
  exact lp_X9_howMany_1 l D cI cZ cC cS sq y y_lane y_many y_item y_city y_fresh y_tape y_cost y_away y_fee y_goesTo y_priceWas y_isKept y_kept y_trace X hK hA 80 0 (by omega) H _ ls hP hD hS (lv_sub hl [0, 1, 2, 3] rfl)
set_option maxHeartbeats 4000000 in
set_option maxRecDepth 100000 in
theorem c_X9_count_0 (l : Launch) (D : va_G) (cI cZ cC cS : ClassId) (sq sz : Nat) (y : Nat) (y_lane : Nat) (y_many : Nat) (y_item : Nat) (y_city : Nat) (y_fresh : Nat) (y_tape : Nat) (y_cost : Nat) (y_away : Nat) (y_fee : Nat) (y_goesTo : Nat) (y_priceWas : Nat) (y_isKept : Nat) (y_kept : Nat) (y_trace : Nat) (la : Nat → Int32) (hla : ∀ j, j < 8 → la j = -1) : mI l yX9_count wsX9_count 0 0 D (tyW cI cZ cC cS) sq [(y, .inr (9, [.int 0, .int 0, .ref y_lane, .ref y_many, .ref y_item, .ref y_city, .ref y_fresh, .int 0, .ref y_tape, .int 0, .int 0, .int 0, .int 0, .int 0, .int 0, .int 0, .int 0, .int 0, .int 0, .int 0, .ref y_cost, .ref y_away, .ref y_fee, .ref y_goesTo, .ref y_priceWas, .ref y_isKept, .ref y_kept, .ref y_trace, .int 0])), (y_lane, .inl (cI, 8, .inl la))] sz [.ref y, .int 0] (fun r w => r = 0 ∧ w = []) := by
  refine b_metI (cc := cX9_count) (maxL := 4) (ret := (some .int)) (by decide) rfl (Nat.le_of_ble_eq_true rfl) ?_
  intro p e s m below meth c ls A H X hsz hP hK hD hA hS hl
  have S : CallFix p m c cX9_count 4 s ([.ref y, .int 0] : List Value).toArray wsX9_count RX9 := X.1
  have hl : lv_has ls 4 [(0, .ref y), (1, .int 0)] := hl
  have iX9 := jX9_count_X9
  refine lv_aload_n S.1 S.2.1 dX9_count_0 rfl (lv_at hl 0 rfl) ?_
  refine lv_iconst (v := 0) S.1 S.2.1 dX9_count_1 (by decide) ?_
  refine b_put (v := .int 0) S iX9 tyX9 tyX9_ok nmX9 hK hP hD hS 0 rfl rfl 0 (by decide) (by decide +kernel) rfl rfl rfl (Nat.le_of_ble_eq_true rfl) dX9_count_2 (fun H locs hP hD hS => ?_)
  have hP : va_P D vwCl [(y, .inr (9, [.int 0, .int 0, .ref y_lane, .ref y_many, .ref y_item, .ref y_city, .ref y_fresh, .int 0, .ref y_tape, .int 0, .int 0, .int 0, .int 0, .int 0, .int 0, .int 0, .int 0, .int 0, .int 0, .int 0, .ref y_cost, .ref y_away, .ref y_fee, .ref y_goesTo, .ref y_priceWas, .ref y_isKept, .ref y_kept, .ref y_trace, .int 0])), (y_lane, .inl (cI, 8, .inl la))] H := hP
  have hD : va_D A [(y, .inr (9, [.int 0, .int 0, .ref y_lane, .ref y_many, .ref y_item, .ref y_city, .ref y_fresh, .int 0, .ref y_tape, .int 0, .int 0, .int 0, .int 0, .int 0, .int 0, .int 0, .int 0, .int 0, .int 0, .int 0, .ref y_cost, .ref y_away, .ref y_fee, .ref y_goesTo, .ref y_priceWas, .ref y_isKept, .ref y_kept, .ref y_trace, .int 0])), (y_lane, .inl (cI, 8, .inl la))] := hD
  refine lv_iconst (v := 0) S.1 S.2.1 dX9_count_5 (by decide) ?_
  refine lv_istore_n (lv' := [(2, .int 0), (0, .ref y), (1, .int 0)]) S.1 S.2.1 dX9_count_6 rfl hl (by decide) rfl (fun ls hl => ?_)
  refine lv_iload_n S.1 S.2.1 dX9_count_7 rfl (lv_at hl 2 rfl) ?_
  refine lv_tableIn (off := 44) (tgt := 52) S.1 S.2.1 dX9_count_8 (by decide) (by decide) (by decide) (by decide) ?_
  refine lv_iconst (v := 0) S.1 S.2.1 dX9_count_52 (by decide) ?_
  refine lv_istore_n (lv' := [(3, .int 0), (2, .int 0), (0, .ref y), (1, .int 0)]) S.1 S.2.1 dX9_count_53 rfl hl (by decide) rfl (fun ls hl => ?_)
  refine lv_iload_n S.1 S.2.1 dX9_count_54 rfl (lv_at hl 0 rfl) ?_
  refine lv_bipush (v := 8) S.1 S.2.1 dX9_count_55 (by decide) ?_
  refine lv_icmp_ge (tgt := 83) S.1 S.2.1 dX9_count_57 (by decide) (fun c_1 => absurd c_1 (by decide)) (fun c_1 => ?_)
  refine lv_iload_n S.1 S.2.1 dX9_count_60 rfl (lv_at hl 1 rfl) ?_
  refine lv_aload_n S.1 S.2.1 dX9_count_61 rfl (lv_at hl 2 rfl) ?_
  refine b_get (v := .ref y_lane) S iX9 hK hP 0 rfl rfl 2 (by decide) (by decide +kernel) rfl dX9_count_62 ?_
  refine lv_iload_n S.1 S.2.1 dX9_count_65 rfl (lv_at hl 0 rfl) ?_
  refine va_iald S.1 S.2.1 hK.1 hP 1 0 rfl rfl (by unfold vp_in; decide) dX9_count_66 ?_
  refine lv_topi (fun x_2 ex_2 => ?_)
  have ex_2 : x_2 = -1 := by exact ex_2.trans (hla 0 (by decide))
  subst ex_2
  refine lv_if_lt (tgt := 74) S.1 S.2.1 dX9_count_67 (by decide) (fun c_3 => ?_) (fun c_3 => absurd c_3 (by decide))
  refine lv_iconst (v := 0) S.1 S.2.1 dX9_count_74 (by decide) ?_
  refine lv_iadd S.1 S.2.1 dX9_count_75 ?_
  refine lv_topi (fun x_4 ex_4 => ?_)
  have ex_4 : x_4 = 0 := by rw [ex_4]; decide
  subst ex_4
  refine lv_istore_n (lv' := [(2, .int 0), (3, .int 0), (0, .ref y), (1, .int 0)]) S.1 S.2.1 dX9_count_76 rfl hl (by decide) rfl (fun ls hl => ?_)
  refine lv_iinc (v := 1) (lv' := [(3, .int 1), (2, .int 0), (0, .ref y), (1, .int 0)]) S.1 S.2.1 dX9_count_77 hl (k := 1) rfl (by decide) (by decide) rfl (fun ls hl => ?_)
  refine lv_goto (tgt := 54) S.1 S.2.1 dX9_count_80 (by decide) ?_
  refine lv_iload_n S.1 S.2.1 dX9_count_54 rfl (lv_at hl 0 rfl) ?_
  refine lv_bipush (v := 8) S.1 S.2.1 dX9_count_55 (by decide) ?_
  refine lv_icmp_ge (tgt := 83) S.1 S.2.1 dX9_count_57 (by decide) (fun c_5 => absurd c_5 (by decide)) (fun c_5 => ?_)
  refine lv_iload_n S.1 S.2.1 dX9_count_60 rfl (lv_at hl 1 rfl) ?_
  refine lv_aload_n S.1 S.2.1 dX9_count_61 rfl (lv_at hl 2 rfl) ?_
  refine b_get (v := .ref y_lane) S iX9 hK hP 0 rfl rfl 2 (by decide) (by decide +kernel) rfl dX9_count_62 ?_
  refine lv_iload_n S.1 S.2.1 dX9_count_65 rfl (lv_at hl 0 rfl) ?_
  refine va_iald S.1 S.2.1 hK.1 hP 1 0 rfl rfl (by unfold vp_in; decide) dX9_count_66 ?_
  refine lv_topi (fun x_6 ex_6 => ?_)
  have ex_6 : x_6 = -1 := by exact ex_6.trans (hla 1 (by decide))
  subst ex_6
  refine lv_if_lt (tgt := 74) S.1 S.2.1 dX9_count_67 (by decide) (fun c_7 => ?_) (fun c_7 => absurd c_7 (by decide))
  refine lv_iconst (v := 0) S.1 S.2.1 dX9_count_74 (by decide) ?_
  refine lv_iadd S.1 S.2.1 dX9_count_75 ?_
  refine lv_topi (fun x_8 ex_8 => ?_)
  have ex_8 : x_8 = 0 := by rw [ex_8]; decide
  subst ex_8
  refine lv_istore_n (lv' := [(2, .int 0), (3, .int 1), (0, .ref y), (1, .int 0)]) S.1 S.2.1 dX9_count_76 rfl hl (by decide) rfl (fun ls hl => ?_)
  refine lv_iinc (v := 2) (lv' := [(3, .int 2), (2, .int 0), (0, .ref y), (1, .int 0)]) S.1 S.2.1 dX9_count_77 hl (k := 1) rfl (by decide) (by decide) rfl (fun ls hl => ?_)
  refine lv_goto (tgt := 54) S.1 S.2.1 dX9_count_80 (by decide) ?_
  refine lv_iload_n S.1 S.2.1 dX9_count_54 rfl (lv_at hl 0 rfl) ?_
  refine lv_bipush (v := 8) S.1 S.2.1 dX9_count_55 (by decide) ?_
  refine lv_icmp_ge (tgt := 83) S.1 S.2.1 dX9_count_57 (by decide) (fun c_9 => absurd c_9 (by decide)) (fun c_9 => ?_)
  refine lv_iload_n S.1 S.2.1 dX9_count_60 rfl (lv_at hl 1 rfl) ?_
  refine lv_aload_n S.1 S.2.1 dX9_count_61 rfl (lv_at hl 2 rfl) ?_
  refine b_get (v := .ref y_lane) S iX9 hK hP 0 rfl rfl 2 (by decide) (by decide +kernel) rfl dX9_count_62 ?_
  refine lv_iload_n S.1 S.2.1 dX9_count_65 rfl (lv_at hl 0 rfl) ?_
  refine va_iald S.1 S.2.1 hK.1 hP 1 0 rfl rfl (by unfold vp_in; decide) dX9_count_66 ?_
  refine lv_topi (fun x_10 ex_10 => ?_)
  have ex_10 : x_10 = -1 := by exact ex_10.trans (hla 2 (by decide))
  subst ex_10
  refine lv_if_lt (tgt := 74) S.1 S.2.1 dX9_count_67 (by decide) (fun c_11 => ?_) (fun c_11 => absurd c_11 (by decide))
  refine lv_iconst (v := 0) S.1 S.2.1 dX9_count_74 (by decide) ?_
  refine lv_iadd S.1 S.2.1 dX9_count_75 ?_
  refine lv_topi (fun x_12 ex_12 => ?_)
  have ex_12 : x_12 = 0 := by rw [ex_12]; decide
  subst ex_12
  refine lv_istore_n (lv' := [(2, .int 0), (3, .int 2), (0, .ref y), (1, .int 0)]) S.1 S.2.1 dX9_count_76 rfl hl (by decide) rfl (fun ls hl => ?_)
  refine lv_iinc (v := 3) (lv' := [(3, .int 3), (2, .int 0), (0, .ref y), (1, .int 0)]) S.1 S.2.1 dX9_count_77 hl (k := 1) rfl (by decide) (by decide) rfl (fun ls hl => ?_)
  refine lv_goto (tgt := 54) S.1 S.2.1 dX9_count_80 (by decide) ?_
  refine lv_iload_n S.1 S.2.1 dX9_count_54 rfl (lv_at hl 0 rfl) ?_
  refine lv_bipush (v := 8) S.1 S.2.1 dX9_count_55 (by decide) ?_
  refine lv_icmp_ge (tgt := 83) S.1 S.2.1 dX9_count_57 (by decide) (fun c_13 => absurd c_13 (by decide)) (fun c_13 => ?_)
  refine lv_iload_n S.1 S.2.1 dX9_count_60 rfl (lv_at hl 1 rfl) ?_
  refine lv_aload_n S.1 S.2.1 dX9_count_61 rfl (lv_at hl 2 rfl) ?_
  refine b_get (v := .ref y_lane) S iX9 hK hP 0 rfl rfl 2 (by decide) (by decide +kernel) rfl dX9_count_62 ?_
  refine lv_iload_n S.1 S.2.1 dX9_count_65 rfl (lv_at hl 0 rfl) ?_
  refine va_iald S.1 S.2.1 hK.1 hP 1 0 rfl rfl (by unfold vp_in; decide) dX9_count_66 ?_
  refine lv_topi (fun x_14 ex_14 => ?_)
  have ex_14 : x_14 = -1 := by exact ex_14.trans (hla 3 (by decide))
  subst ex_14
  refine lv_if_lt (tgt := 74) S.1 S.2.1 dX9_count_67 (by decide) (fun c_15 => ?_) (fun c_15 => absurd c_15 (by decide))
  refine lv_iconst (v := 0) S.1 S.2.1 dX9_count_74 (by decide) ?_
  refine lv_iadd S.1 S.2.1 dX9_count_75 ?_
  refine lv_topi (fun x_16 ex_16 => ?_)
  have ex_16 : x_16 = 0 := by rw [ex_16]; decide
  subst ex_16
  refine lv_istore_n (lv' := [(2, .int 0), (3, .int 3), (0, .ref y), (1, .int 0)]) S.1 S.2.1 dX9_count_76 rfl hl (by decide) rfl (fun ls hl => ?_)
  refine lv_iinc (v := 4) (lv' := [(3, .int 4), (2, .int 0), (0, .ref y), (1, .int 0)]) S.1 S.2.1 dX9_count_77 hl (k := 1) rfl (by decide) (by decide) rfl (fun ls hl => ?_)
  refine lv_goto (tgt := 54) S.1 S.2.1 dX9_count_80 (by decide) ?_
  refine lv_iload_n S.1 S.2.1 dX9_count_54 rfl (lv_at hl 0 rfl) ?_
  refine lv_bipush (v := 8) S.1 S.2.1 dX9_count_55 (by decide) ?_
  refine lv_icmp_ge (tgt := 83) S.1 S.2.1 dX9_count_57 (by decide) (fun c_17 => absurd c_17 (by decide)) (fun c_17 => ?_)
  refine lv_iload_n S.1 S.2.1 dX9_count_60 rfl (lv_at hl 1 rfl) ?_
  refine lv_aload_n S.1 S.2.1 dX9_count_61 rfl (lv_at hl 2 rfl) ?_
  refine b_get (v := .ref y_lane) S iX9 hK hP 0 rfl rfl 2 (by decide) (by decide +kernel) rfl dX9_count_62 ?_
  refine lv_iload_n S.1 S.2.1 dX9_count_65 rfl (lv_at hl 0 rfl) ?_
  refine va_iald S.1 S.2.1 hK.1 hP 1 0 rfl rfl (by unfold vp_in; decide) dX9_count_66 ?_
  refine lv_topi (fun x_18 ex_18 => ?_)
  have ex_18 : x_18 = -1 := by exact ex_18.trans (hla 4 (by decide))
  subst ex_18
  refine lv_if_lt (tgt := 74) S.1 S.2.1 dX9_count_67 (by decide) (fun c_19 => ?_) (fun c_19 => absurd c_19 (by decide))
  refine lv_iconst (v := 0) S.1 S.2.1 dX9_count_74 (by decide) ?_
  refine lv_iadd S.1 S.2.1 dX9_count_75 ?_
  refine lv_topi (fun x_20 ex_20 => ?_)
  have ex_20 : x_20 = 0 := by rw [ex_20]; decide
  subst ex_20
  refine lv_istore_n (lv' := [(2, .int 0), (3, .int 4), (0, .ref y), (1, .int 0)]) S.1 S.2.1 dX9_count_76 rfl hl (by decide) rfl (fun ls hl => ?_)
  refine lv_iinc (v := 5) (lv' := [(3, .int 5), (2, .int 0), (0, .ref y), (1, .int 0)]) S.1 S.2.1 dX9_count_77 hl (k := 1) rfl (by decide) (by decide) rfl (fun ls hl => ?_)
  refine lv_goto (tgt := 54) S.1 S.2.1 dX9_count_80 (by decide) ?_
  refine lv_iload_n S.1 S.2.1 dX9_count_54 rfl (lv_at hl 0 rfl) ?_
  refine lv_bipush (v := 8) S.1 S.2.1 dX9_count_55 (by decide) ?_
  refine lv_icmp_ge (tgt := 83) S.1 S.2.1 dX9_count_57 (by decide) (fun c_21 => absurd c_21 (by decide)) (fun c_21 => ?_)
  refine lv_iload_n S.1 S.2.1 dX9_count_60 rfl (lv_at hl 1 rfl) ?_
  refine lv_aload_n S.1 S.2.1 dX9_count_61 rfl (lv_at hl 2 rfl) ?_
  refine b_get (v := .ref y_lane) S iX9 hK hP 0 rfl rfl 2 (by decide) (by decide +kernel) rfl dX9_count_62 ?_
  refine lv_iload_n S.1 S.2.1 dX9_count_65 rfl (lv_at hl 0 rfl) ?_
  refine va_iald S.1 S.2.1 hK.1 hP 1 0 rfl rfl (by unfold vp_in; decide) dX9_count_66 ?_
  refine lv_topi (fun x_22 ex_22 => ?_)
  have ex_22 : x_22 = -1 := by exact ex_22.trans (hla 5 (by decide))
  subst ex_22
  refine lv_if_lt (tgt := 74) S.1 S.2.1 dX9_count_67 (by decide) (fun c_23 => ?_) (fun c_23 => absurd c_23 (by decide))
  refine lv_iconst (v := 0) S.1 S.2.1 dX9_count_74 (by decide) ?_
  refine lv_iadd S.1 S.2.1 dX9_count_75 ?_
  refine lv_topi (fun x_24 ex_24 => ?_)
  have ex_24 : x_24 = 0 := by rw [ex_24]; decide
  subst ex_24
  refine lv_istore_n (lv' := [(2, .int 0), (3, .int 5), (0, .ref y), (1, .int 0)]) S.1 S.2.1 dX9_count_76 rfl hl (by decide) rfl (fun ls hl => ?_)
  refine lv_iinc (v := 6) (lv' := [(3, .int 6), (2, .int 0), (0, .ref y), (1, .int 0)]) S.1 S.2.1 dX9_count_77 hl (k := 1) rfl (by decide) (by decide) rfl (fun ls hl => ?_)
  refine lv_goto (tgt := 54) S.1 S.2.1 dX9_count_80 (by decide) ?_
  refine lv_iload_n S.1 S.2.1 dX9_count_54 rfl (lv_at hl 0 rfl) ?_
  refine lv_bipush (v := 8) S.1 S.2.1 dX9_count_55 (by decide) ?_
  refine lv_icmp_ge (tgt := 83) S.1 S.2.1 dX9_count_57 (by decide) (fun c_25 => absurd c_25 (by decide)) (fun c_25 => ?_)
  refine lv_iload_n S.1 S.2.1 dX9_count_60 rfl (lv_at hl 1 rfl) ?_
  refine lv_aload_n S.1 S.2.1 dX9_count_61 rfl (lv_at hl 2 rfl) ?_
  refine b_get (v := .ref y_lane) S iX9 hK hP 0 rfl rfl 2 (by decide) (by decide +kernel) rfl dX9_count_62 ?_
  refine lv_iload_n S.1 S.2.1 dX9_count_65 rfl (lv_at hl 0 rfl) ?_
  refine va_iald S.1 S.2.1 hK.1 hP 1 0 rfl rfl (by unfold vp_in; decide) dX9_count_66 ?_
  refine lv_topi (fun x_26 ex_26 => ?_)
  have ex_26 : x_26 = -1 := by exact ex_26.trans (hla 6 (by decide))
  subst ex_26
  refine lv_if_lt (tgt := 74) S.1 S.2.1 dX9_count_67 (by decide) (fun c_27 => ?_) (fun c_27 => absurd c_27 (by decide))
  refine lv_iconst (v := 0) S.1 S.2.1 dX9_count_74 (by decide) ?_
  refine lv_iadd S.1 S.2.1 dX9_count_75 ?_
  refine lv_topi (fun x_28 ex_28 => ?_)
  have ex_28 : x_28 = 0 := by rw [ex_28]; decide
  subst ex_28
  refine lv_istore_n (lv' := [(2, .int 0), (3, .int 6), (0, .ref y), (1, .int 0)]) S.1 S.2.1 dX9_count_76 rfl hl (by decide) rfl (fun ls hl => ?_)
  refine lv_iinc (v := 7) (lv' := [(3, .int 7), (2, .int 0), (0, .ref y), (1, .int 0)]) S.1 S.2.1 dX9_count_77 hl (k := 1) rfl (by decide) (by decide) rfl (fun ls hl => ?_)
  refine lv_goto (tgt := 54) S.1 S.2.1 dX9_count_80 (by decide) ?_
  refine lv_iload_n S.1 S.2.1 dX9_count_54 rfl (lv_at hl 0 rfl) ?_
  refine lv_bipush (v := 8) S.1 S.2.1 dX9_count_55 (by decide) ?_
  refine lv_icmp_ge (tgt := 83) S.1 S.2.1 dX9_count_57 (by decide) (fun c_29 => absurd c_29 (by decide)) (fun c_29 => ?_)
  refine lv_iload_n S.1 S.2.1 dX9_count_60 rfl (lv_at hl 1 rfl) ?_
  refine lv_aload_n S.1 S.2.1 dX9_count_61 rfl (lv_at hl 2 rfl) ?_
  refine b_get (v := .ref y_lane) S iX9 hK hP 0 rfl rfl 2 (by decide) (by decide +kernel) rfl dX9_count_62 ?_
  refine lv_iload_n S.1 S.2.1 dX9_count_65 rfl (lv_at hl 0 rfl) ?_
  refine va_iald S.1 S.2.1 hK.1 hP 1 0 rfl rfl (by unfold vp_in; decide) dX9_count_66 ?_
  refine lv_topi (fun x_30 ex_30 => ?_)
  have ex_30 : x_30 = -1 := by exact ex_30.trans (hla 7 (by decide))
  subst ex_30
  refine lv_if_lt (tgt := 74) S.1 S.2.1 dX9_count_67 (by decide) (fun c_31 => ?_) (fun c_31 => absurd c_31 (by decide))
  refine lv_iconst (v := 0) S.1 S.2.1 dX9_count_74 (by decide) ?_
  refine lv_iadd S.1 S.2.1 dX9_count_75 ?_
  refine lv_topi (fun x_32 ex_32 => ?_)
  have ex_32 : x_32 = 0 := by rw [ex_32]; decide
  subst ex_32
  refine lv_istore_n (lv' := [(2, .int 0), (3, .int 7), (0, .ref y), (1, .int 0)]) S.1 S.2.1 dX9_count_76 rfl hl (by decide) rfl (fun ls hl => ?_)
  refine lv_iinc (v := 8) (lv' := [(3, .int 8), (2, .int 0), (0, .ref y), (1, .int 0)]) S.1 S.2.1 dX9_count_77 hl (k := 1) rfl (by decide) (by decide) rfl (fun ls hl => ?_)
  refine lv_goto (tgt := 54) S.1 S.2.1 dX9_count_80 (by decide) ?_
  refine lv_iload_n S.1 S.2.1 dX9_count_54 rfl (lv_at hl 0 rfl) ?_
  refine lv_bipush (v := 8) S.1 S.2.1 dX9_count_55 (by decide) ?_
  refine lv_icmp_ge (tgt := 83) S.1 S.2.1 dX9_count_57 (by decide) (fun c_33 => ?_) (fun c_33 => absurd c_33 (by decide))
  refine lv_iload_n S.1 S.2.1 dX9_count_83 rfl (lv_at hl 1 rfl) ?_
  have hP := hP.sub (ws' := []) [] rfl
  have hD := hD.sub (ws' := []) [] (by decide) rfl
  exact b_iret S.1 S.2.1 X.2.1 X.2.2.1 hP hD hS ⟨rfl, rfl⟩ dX9_count_84
set_option maxHeartbeats 4000000 in
set_option maxRecDepth 100000 in
theorem c_X9_count_1 (l : Launch) (D : va_G) (cI cZ cC cS : ClassId) (sq sz : Nat) (y : Nat) (y_lane : Nat) (y_many : Nat) (y_item : Nat) (y_city : Nat) (y_fresh : Nat) (y_tape : Nat) (y_cost : Nat) (y_away : Nat) (y_fee : Nat) (y_goesTo : Nat) (y_priceWas : Nat) (y_isKept : Nat) (y_kept : Nat) (y_trace : Nat) : mI l yX9_count wsX9_count 0 0 D (tyW cI cZ cC cS) sq [(y, .inr (9, [.int 0, .int 0, .ref y_lane, .ref y_many, .ref y_item, .ref y_city, .ref y_fresh, .int 0, .ref y_tape, .int 0, .int 0, .int 0, .int 0, .int 0, .int 0, .int 0, .int 0, .int 0, .int 0, .int 0, .ref y_cost, .ref y_away, .ref y_fee, .ref y_goesTo, .ref y_priceWas, .ref y_isKept, .ref y_kept, .ref y_trace, .int 0])), (y_city, .inl (cI, 192, .inl (fun _ => 0)))] sz [.ref y, .int 1] (fun r w => r = 0 ∧ w = []) := by
  refine b_metI (cc := cX9_count) (maxL := 4) (ret := (some .int)) (by decide) rfl (Nat.le_of_ble_eq_true rfl) ?_
  intro p e s m below meth c ls A H X hsz hP hK hD hA hS hl
  have S : CallFix p m c cX9_count 4 s ([.ref y, .int 1] : List Value).toArray wsX9_count RX9 := X.1
  have hl : lv_has ls 4 [(0, .ref y), (1, .int 1)] := hl
  have iX9 := jX9_count_X9
  refine lv_aload_n S.1 S.2.1 dX9_count_0 rfl (lv_at hl 0 rfl) ?_
  refine lv_iconst (v := 0) S.1 S.2.1 dX9_count_1 (by decide) ?_
  refine b_put (v := .int 0) S iX9 tyX9 tyX9_ok nmX9 hK hP hD hS 0 rfl rfl 0 (by decide) (by decide +kernel) rfl rfl rfl (Nat.le_of_ble_eq_true rfl) dX9_count_2 (fun H locs hP hD hS => ?_)
  have hP : va_P D vwCl [(y, .inr (9, [.int 0, .int 0, .ref y_lane, .ref y_many, .ref y_item, .ref y_city, .ref y_fresh, .int 0, .ref y_tape, .int 0, .int 0, .int 0, .int 0, .int 0, .int 0, .int 0, .int 0, .int 0, .int 0, .int 0, .ref y_cost, .ref y_away, .ref y_fee, .ref y_goesTo, .ref y_priceWas, .ref y_isKept, .ref y_kept, .ref y_trace, .int 0])), (y_city, .inl (cI, 192, .inl (fun _ => 0)))] H := hP
  have hD : va_D A [(y, .inr (9, [.int 0, .int 0, .ref y_lane, .ref y_many, .ref y_item, .ref y_city, .ref y_fresh, .int 0, .ref y_tape, .int 0, .int 0, .int 0, .int 0, .int 0, .int 0, .int 0, .int 0, .int 0, .int 0, .int 0, .ref y_cost, .ref y_away, .ref y_fee, .ref y_goesTo, .ref y_priceWas, .ref y_isKept, .ref y_kept, .ref y_trace, .int 0])), (y_city, .inl (cI, 192, .inl (fun _ => 0)))] := hD
  refine lv_iconst (v := 0) S.1 S.2.1 dX9_count_5 (by decide) ?_
  refine lv_istore_n (lv' := [(2, .int 0), (0, .ref y), (1, .int 1)]) S.1 S.2.1 dX9_count_6 rfl hl (by decide) rfl (fun ls hl => ?_)
  refine lv_iload_n S.1 S.2.1 dX9_count_7 rfl (lv_at hl 2 rfl) ?_
  refine lv_tableIn (off := 77) (tgt := 85) S.1 S.2.1 dX9_count_8 (by decide) (by decide) (by decide) (by decide) ?_
  refine lv_aload_n S.1 S.2.1 dX9_count_85 rfl (lv_at hl 1 rfl) ?_
  refine b_get (v := .ref y_city) S iX9 hK hP 0 rfl rfl 5 (by decide) (by decide +kernel) rfl dX9_count_86 ?_
  refine lv_iconst (v := 0) S.1 S.2.1 dX9_count_89 (by decide) ?_
  refine va_iald S.1 S.2.1 hK.1 hP 1 0 rfl rfl (by unfold vp_in; decide) dX9_count_90 ?_
  refine lv_topi (fun x_1 ex_1 => ?_)
  have ex_1 : x_1 = 0 := by exact ex_1
  subst ex_1
  have hP := hP.sub (ws' := []) [] rfl
  have hD := hD.sub (ws' := []) [] (by decide) rfl
  exact b_iret S.1 S.2.1 X.2.1 X.2.2.1 hP hD hS ⟨rfl, rfl⟩ dX9_count_91
set_option maxHeartbeats 4000000 in
set_option maxRecDepth 100000 in
theorem c_X9_count_2 (l : Launch) (D : va_G) (cI cZ cC cS : ClassId) (sq sz : Nat) (y : Nat) (y_lane : Nat) (y_many : Nat) (y_item : Nat) (y_city : Nat) (y_fresh : Nat) (y_tape : Nat) (y_cost : Nat) (y_away : Nat) (y_fee : Nat) (y_goesTo : Nat) (y_priceWas : Nat) (y_isKept : Nat) (y_kept : Nat) (y_trace : Nat) : mI l yX9_count wsX9_count 0 0 D (tyW cI cZ cC cS) sq [(y, .inr (9, [.int 0, .int 0, .ref y_lane, .ref y_many, .ref y_item, .ref y_city, .ref y_fresh, .int 0, .ref y_tape, .int 0, .int 0, .int 0, .int 0, .int 0, .int 0, .int 0, .int 0, .int 0, .int 0, .int 0, .ref y_cost, .ref y_away, .ref y_fee, .ref y_goesTo, .ref y_priceWas, .ref y_isKept, .ref y_kept, .ref y_trace, .int 0])), (y_city, .inl (cI, 192, .inl (fun _ => 0)))] sz [.ref y, .int 2] (fun r w => r = 0 ∧ w = []) := by
  refine b_metI (cc := cX9_count) (maxL := 4) (ret := (some .int)) (by decide) rfl (Nat.le_of_ble_eq_true rfl) ?_
  intro p e s m below meth c ls A H X hsz hP hK hD hA hS hl
  have S : CallFix p m c cX9_count 4 s ([.ref y, .int 2] : List Value).toArray wsX9_count RX9 := X.1
  have hl : lv_has ls 4 [(0, .ref y), (1, .int 2)] := hl
  have iX9 := jX9_count_X9
  refine lv_aload_n S.1 S.2.1 dX9_count_0 rfl (lv_at hl 0 rfl) ?_
  refine lv_iconst (v := 0) S.1 S.2.1 dX9_count_1 (by decide) ?_
  refine b_put (v := .int 0) S iX9 tyX9 tyX9_ok nmX9 hK hP hD hS 0 rfl rfl 0 (by decide) (by decide +kernel) rfl rfl rfl (Nat.le_of_ble_eq_true rfl) dX9_count_2 (fun H locs hP hD hS => ?_)
  have hP : va_P D vwCl [(y, .inr (9, [.int 0, .int 0, .ref y_lane, .ref y_many, .ref y_item, .ref y_city, .ref y_fresh, .int 0, .ref y_tape, .int 0, .int 0, .int 0, .int 0, .int 0, .int 0, .int 0, .int 0, .int 0, .int 0, .int 0, .ref y_cost, .ref y_away, .ref y_fee, .ref y_goesTo, .ref y_priceWas, .ref y_isKept, .ref y_kept, .ref y_trace, .int 0])), (y_city, .inl (cI, 192, .inl (fun _ => 0)))] H := hP
  have hD : va_D A [(y, .inr (9, [.int 0, .int 0, .ref y_lane, .ref y_many, .ref y_item, .ref y_city, .ref y_fresh, .int 0, .ref y_tape, .int 0, .int 0, .int 0, .int 0, .int 0, .int 0, .int 0, .int 0, .int 0, .int 0, .int 0, .ref y_cost, .ref y_away, .ref y_fee, .ref y_goesTo, .ref y_priceWas, .ref y_isKept, .ref y_kept, .ref y_trace, .int 0])), (y_city, .inl (cI, 192, .inl (fun _ => 0)))] := hD
  refine lv_iconst (v := 0) S.1 S.2.1 dX9_count_5 (by decide) ?_
  refine lv_istore_n (lv' := [(2, .int 0), (0, .ref y), (1, .int 2)]) S.1 S.2.1 dX9_count_6 rfl hl (by decide) rfl (fun ls hl => ?_)
  refine lv_iload_n S.1 S.2.1 dX9_count_7 rfl (lv_at hl 2 rfl) ?_
  refine lv_tableIn (off := 84) (tgt := 92) S.1 S.2.1 dX9_count_8 (by decide) (by decide) (by decide) (by decide) ?_
  refine lv_aload_n S.1 S.2.1 dX9_count_92 rfl (lv_at hl 1 rfl) ?_
  refine b_get (v := .ref y_city) S iX9 hK hP 0 rfl rfl 5 (by decide) (by decide +kernel) rfl dX9_count_93 ?_
  refine lv_iconst (v := 1) S.1 S.2.1 dX9_count_96 (by decide) ?_
  refine va_iald S.1 S.2.1 hK.1 hP 1 0 rfl rfl (by unfold vp_in; decide) dX9_count_97 ?_
  refine lv_topi (fun x_1 ex_1 => ?_)
  have ex_1 : x_1 = 0 := by exact ex_1
  subst ex_1
  have hP := hP.sub (ws' := []) [] rfl
  have hD := hD.sub (ws' := []) [] (by decide) rfl
  exact b_iret S.1 S.2.1 X.2.1 X.2.2.1 hP hD hS ⟨rfl, rfl⟩ dX9_count_98
set_option maxHeartbeats 4000000 in
set_option maxRecDepth 100000 in
theorem c_X9_count_3 (l : Launch) (D : va_G) (cI cZ cC cS : ClassId) (sq sz : Nat) (y : Nat) (y_lane : Nat) (y_many : Nat) (y_item : Nat) (y_city : Nat) (y_fresh : Nat) (y_tape : Nat) (y_cost : Nat) (y_away : Nat) (y_fee : Nat) (y_goesTo : Nat) (y_priceWas : Nat) (y_isKept : Nat) (y_kept : Nat) (y_trace : Nat) : mI l yX9_count wsX9_count 0 0 D (tyW cI cZ cC cS) sq [(y, .inr (9, [.int 0, .int 0, .ref y_lane, .ref y_many, .ref y_item, .ref y_city, .ref y_fresh, .int 0, .ref y_tape, .int 0, .int 0, .int 0, .int 0, .int 0, .int 0, .int 0, .int 0, .int 0, .int 0, .int 0, .ref y_cost, .ref y_away, .ref y_fee, .ref y_goesTo, .ref y_priceWas, .ref y_isKept, .ref y_kept, .ref y_trace, .int 0])), (y_city, .inl (cI, 192, .inl (fun _ => 0)))] sz [.ref y, .int 3] (fun r w => r = 0 ∧ w = []) := by
  refine b_metI (cc := cX9_count) (maxL := 4) (ret := (some .int)) (by decide) rfl (Nat.le_of_ble_eq_true rfl) ?_
  intro p e s m below meth c ls A H X hsz hP hK hD hA hS hl
  have S : CallFix p m c cX9_count 4 s ([.ref y, .int 3] : List Value).toArray wsX9_count RX9 := X.1
  have hl : lv_has ls 4 [(0, .ref y), (1, .int 3)] := hl
  have iX9 := jX9_count_X9
  refine lv_aload_n S.1 S.2.1 dX9_count_0 rfl (lv_at hl 0 rfl) ?_
  refine lv_iconst (v := 0) S.1 S.2.1 dX9_count_1 (by decide) ?_
  refine b_put (v := .int 0) S iX9 tyX9 tyX9_ok nmX9 hK hP hD hS 0 rfl rfl 0 (by decide) (by decide +kernel) rfl rfl rfl (Nat.le_of_ble_eq_true rfl) dX9_count_2 (fun H locs hP hD hS => ?_)
  have hP : va_P D vwCl [(y, .inr (9, [.int 0, .int 0, .ref y_lane, .ref y_many, .ref y_item, .ref y_city, .ref y_fresh, .int 0, .ref y_tape, .int 0, .int 0, .int 0, .int 0, .int 0, .int 0, .int 0, .int 0, .int 0, .int 0, .int 0, .ref y_cost, .ref y_away, .ref y_fee, .ref y_goesTo, .ref y_priceWas, .ref y_isKept, .ref y_kept, .ref y_trace, .int 0])), (y_city, .inl (cI, 192, .inl (fun _ => 0)))] H := hP
  have hD : va_D A [(y, .inr (9, [.int 0, .int 0, .ref y_lane, .ref y_many, .ref y_item, .ref y_city, .ref y_fresh, .int 0, .ref y_tape, .int 0, .int 0, .int 0, .int 0, .int 0, .int 0, .int 0, .int 0, .int 0, .int 0, .int 0, .ref y_cost, .ref y_away, .ref y_fee, .ref y_goesTo, .ref y_priceWas, .ref y_isKept, .ref y_kept, .ref y_trace, .int 0])), (y_city, .inl (cI, 192, .inl (fun _ => 0)))] := hD
  refine lv_iconst (v := 0) S.1 S.2.1 dX9_count_5 (by decide) ?_
  refine lv_istore_n (lv' := [(2, .int 0), (0, .ref y), (1, .int 3)]) S.1 S.2.1 dX9_count_6 rfl hl (by decide) rfl (fun ls hl => ?_)
  refine lv_iload_n S.1 S.2.1 dX9_count_7 rfl (lv_at hl 2 rfl) ?_
  refine lv_tableIn (off := 91) (tgt := 99) S.1 S.2.1 dX9_count_8 (by decide) (by decide) (by decide) (by decide) ?_
  refine lv_aload_n S.1 S.2.1 dX9_count_99 rfl (lv_at hl 1 rfl) ?_
  refine b_get (v := .ref y_city) S iX9 hK hP 0 rfl rfl 5 (by decide) (by decide +kernel) rfl dX9_count_100 ?_
  refine lv_iconst (v := 3) S.1 S.2.1 dX9_count_103 (by decide) ?_
  refine va_iald S.1 S.2.1 hK.1 hP 1 0 rfl rfl (by unfold vp_in; decide) dX9_count_104 ?_
  refine lv_topi (fun x_1 ex_1 => ?_)
  have ex_1 : x_1 = 0 := by exact ex_1
  subst ex_1
  have hP := hP.sub (ws' := []) [] rfl
  have hD := hD.sub (ws' := []) [] (by decide) rfl
  exact b_iret S.1 S.2.1 X.2.1 X.2.2.1 hP hD hS ⟨rfl, rfl⟩ dX9_count_105
set_option maxHeartbeats 4000000 in
set_option maxRecDepth 100000 in
theorem c_X9_count_4 (l : Launch) (D : va_G) (cI cZ cC cS : ClassId) (sq sz : Nat) (y : Nat) (y_lane : Nat) (y_many : Nat) (y_item : Nat) (y_city : Nat) (y_fresh : Nat) (y_tape : Nat) (y_cost : Nat) (y_away : Nat) (y_fee : Nat) (y_goesTo : Nat) (y_priceWas : Nat) (y_isKept : Nat) (y_kept : Nat) (y_trace : Nat) : mI l yX9_count wsX9_count 4 105 D (tyW cI cZ cC cS) sq [(y, .inr (9, [.int 0, .int 0, .ref y_lane, .ref y_many, .ref y_item, .ref y_city, .ref y_fresh, .int 0, .ref y_tape, .int 0, .int 0, .int 0, .int 0, .int 0, .int 0, .int 0, .int 0, .int 0, .int 0, .int 0, .ref y_cost, .ref y_away, .ref y_fee, .ref y_goesTo, .ref y_priceWas, .ref y_isKept, .ref y_kept, .ref y_trace, .int 0])), (y_city, .inl (cI, 192, .inl (fun _ => 0)))] sz [.ref y, .int 4] (fun r w => r = 0 ∧ w = []) := by
  refine b_metI (cc := cX9_count) (maxL := 4) (ret := (some .int)) (by decide) rfl (Nat.le_of_ble_eq_true rfl) ?_
  intro p e s m below meth c ls A H X hsz hP hK hD hA hS hl
  have S : CallFix p m c cX9_count 4 s ([.ref y, .int 4] : List Value).toArray wsX9_count RX9 := X.1
  have hl : lv_has ls 4 [(0, .ref y), (1, .int 4)] := hl
  have iX9 := jX9_count_X9
  refine lv_aload_n S.1 S.2.1 dX9_count_0 rfl (lv_at hl 0 rfl) ?_
  refine lv_iconst (v := 0) S.1 S.2.1 dX9_count_1 (by decide) ?_
  refine b_put (v := .int 0) S iX9 tyX9 tyX9_ok nmX9 hK hP hD hS 0 rfl rfl 0 (by decide) (by decide +kernel) rfl rfl rfl (Nat.le_of_ble_eq_true rfl) dX9_count_2 (fun H locs hP hD hS => ?_)
  have hP : va_P D vwCl [(y, .inr (9, [.int 0, .int 0, .ref y_lane, .ref y_many, .ref y_item, .ref y_city, .ref y_fresh, .int 0, .ref y_tape, .int 0, .int 0, .int 0, .int 0, .int 0, .int 0, .int 0, .int 0, .int 0, .int 0, .int 0, .ref y_cost, .ref y_away, .ref y_fee, .ref y_goesTo, .ref y_priceWas, .ref y_isKept, .ref y_kept, .ref y_trace, .int 0])), (y_city, .inl (cI, 192, .inl (fun _ => 0)))] H := hP
  have hD : va_D A [(y, .inr (9, [.int 0, .int 0, .ref y_lane, .ref y_many, .ref y_item, .ref y_city, .ref y_fresh, .int 0, .ref y_tape, .int 0, .int 0, .int 0, .int 0, .int 0, .int 0, .int 0, .int 0, .int 0, .int 0, .int 0, .ref y_cost, .ref y_away, .ref y_fee, .ref y_goesTo, .ref y_priceWas, .ref y_isKept, .ref y_kept, .ref y_trace, .int 0])), (y_city, .inl (cI, 192, .inl (fun _ => 0)))] := hD
  refine lv_iconst (v := 0) S.1 S.2.1 dX9_count_5 (by decide) ?_
  refine lv_istore_n (lv' := [(2, .int 0), (0, .ref y), (1, .int 4)]) S.1 S.2.1 dX9_count_6 rfl hl (by decide) rfl (fun ls hl => ?_)
  refine lv_iload_n S.1 S.2.1 dX9_count_7 rfl (lv_at hl 2 rfl) ?_
  refine lv_tableIn (off := 98) (tgt := 106) S.1 S.2.1 dX9_count_8 (by decide) (by decide) (by decide) (by decide) ?_
  refine lv_aload_n S.1 S.2.1 dX9_count_106 rfl (lv_at hl 1 rfl) ?_
  refine lv_iload_n S.1 S.2.1 dX9_count_107 rfl (lv_at hl 2 rfl) ?_
  refine lv_iconst (v := 5) S.1 S.2.1 dX9_count_108 (by decide) ?_
  refine lv_icmp_ne (tgt := 116) S.1 S.2.1 dX9_count_109 (by decide) (fun c_1 => ?_) (fun c_1 => absurd c_1 (by decide))
  refine lv_iconst (v := 0) S.1 S.2.1 dX9_count_116 (by decide) ?_
  refine b_ai (wr := []) (b_runV (q0 := 0) (ci := 9) (As := [.int 0]) (c_X9_howMany_0 l D cI cZ cC cS sq H.size y y_lane y_many y_item y_city y_fresh y_tape y_cost y_away y_fee y_goesTo y_priceWas y_isKept y_kept y_trace) S gX9_count_X9_howMany rfl hdV_X9_howMany ⟨Nat.le_of_ble_eq_true rfl, Nat.le_of_ble_eq_true rfl⟩ ⟨Nat.le_of_ble_eq_true rfl, Nat.le_of_ble_eq_true rfl⟩ hK hP hD rfl rfl [0, 1] rfl (by decide) rfl hl.1 rfl (Nat.le_of_ble_eq_true rfl) dX9_count_117) hP hD hS hA [0, 1] [] rfl rfl (by decide) (by decide) (fun r_2 w_3 H locs hw_4 hP hD hS => ?_)
  obtain ⟨rfl, rfl⟩ := hw_4
  have hP := hP.sub (ws' := []) [] rfl
  have hD := hD.sub (ws' := []) [] (by decide) rfl
  exact b_iret S.1 S.2.1 X.2.1 X.2.2.1 hP hD hS ⟨rfl, rfl⟩ dX9_count_120
set_option maxHeartbeats 4000000 in
set_option maxRecDepth 100000 in
theorem c_X9_count_5 (l : Launch) (D : va_G) (cI cZ cC cS : ClassId) (sq sz : Nat) (y : Nat) (y_lane : Nat) (y_many : Nat) (y_item : Nat) (y_city : Nat) (y_fresh : Nat) (y_tape : Nat) (y_cost : Nat) (y_away : Nat) (y_fee : Nat) (y_goesTo : Nat) (y_priceWas : Nat) (y_isKept : Nat) (y_kept : Nat) (y_trace : Nat) : mI l yX9_count wsX9_count 4 105 D (tyW cI cZ cC cS) sq [(y, .inr (9, [.int 0, .int 0, .ref y_lane, .ref y_many, .ref y_item, .ref y_city, .ref y_fresh, .int 0, .ref y_tape, .int 0, .int 0, .int 0, .int 0, .int 0, .int 0, .int 0, .int 0, .int 0, .int 0, .int 0, .ref y_cost, .ref y_away, .ref y_fee, .ref y_goesTo, .ref y_priceWas, .ref y_isKept, .ref y_kept, .ref y_trace, .int 0])), (y_city, .inl (cI, 192, .inl (fun _ => 0)))] sz [.ref y, .int 5] (fun r w => r = 0 ∧ w = []) := by
  refine b_metI (cc := cX9_count) (maxL := 4) (ret := (some .int)) (by decide) rfl (Nat.le_of_ble_eq_true rfl) ?_
  intro p e s m below meth c ls A H X hsz hP hK hD hA hS hl
  have S : CallFix p m c cX9_count 4 s ([.ref y, .int 5] : List Value).toArray wsX9_count RX9 := X.1
  have hl : lv_has ls 4 [(0, .ref y), (1, .int 5)] := hl
  have iX9 := jX9_count_X9
  refine lv_aload_n S.1 S.2.1 dX9_count_0 rfl (lv_at hl 0 rfl) ?_
  refine lv_iconst (v := 0) S.1 S.2.1 dX9_count_1 (by decide) ?_
  refine b_put (v := .int 0) S iX9 tyX9 tyX9_ok nmX9 hK hP hD hS 0 rfl rfl 0 (by decide) (by decide +kernel) rfl rfl rfl (Nat.le_of_ble_eq_true rfl) dX9_count_2 (fun H locs hP hD hS => ?_)
  have hP : va_P D vwCl [(y, .inr (9, [.int 0, .int 0, .ref y_lane, .ref y_many, .ref y_item, .ref y_city, .ref y_fresh, .int 0, .ref y_tape, .int 0, .int 0, .int 0, .int 0, .int 0, .int 0, .int 0, .int 0, .int 0, .int 0, .int 0, .ref y_cost, .ref y_away, .ref y_fee, .ref y_goesTo, .ref y_priceWas, .ref y_isKept, .ref y_kept, .ref y_trace, .int 0])), (y_city, .inl (cI, 192, .inl (fun _ => 0)))] H := hP
  have hD : va_D A [(y, .inr (9, [.int 0, .int 0, .ref y_lane, .ref y_many, .ref y_item, .ref y_city, .ref y_fresh, .int 0, .ref y_tape, .int 0, .int 0, .int 0, .int 0, .int 0, .int 0, .int 0, .int 0, .int 0, .int 0, .int 0, .ref y_cost, .ref y_away, .ref y_fee, .ref y_goesTo, .ref y_priceWas, .ref y_isKept, .ref y_kept, .ref y_trace, .int 0])), (y_city, .inl (cI, 192, .inl (fun _ => 0)))] := hD
  refine lv_iconst (v := 0) S.1 S.2.1 dX9_count_5 (by decide) ?_
  refine lv_istore_n (lv' := [(2, .int 0), (0, .ref y), (1, .int 5)]) S.1 S.2.1 dX9_count_6 rfl hl (by decide) rfl (fun ls hl => ?_)
  refine lv_iload_n S.1 S.2.1 dX9_count_7 rfl (lv_at hl 2 rfl) ?_
  refine lv_tableIn (off := 98) (tgt := 106) S.1 S.2.1 dX9_count_8 (by decide) (by decide) (by decide) (by decide) ?_
  refine lv_aload_n S.1 S.2.1 dX9_count_106 rfl (lv_at hl 1 rfl) ?_
  refine lv_iload_n S.1 S.2.1 dX9_count_107 rfl (lv_at hl 2 rfl) ?_
  refine lv_iconst (v := 5) S.1 S.2.1 dX9_count_108 (by decide) ?_
  refine lv_icmp_ne (tgt := 116) S.1 S.2.1 dX9_count_109 (by decide) (fun c_1 => absurd c_1 (by decide)) (fun c_1 => ?_)
  refine lv_iconst (v := 1) S.1 S.2.1 dX9_count_112 (by decide) ?_
  refine lv_goto (tgt := 117) S.1 S.2.1 dX9_count_113 (by decide) ?_
  refine b_ai (wr := []) (b_runV (q0 := 0) (ci := 9) (As := [.int 1]) (c_X9_howMany_1 l D cI cZ cC cS sq H.size y y_lane y_many y_item y_city y_fresh y_tape y_cost y_away y_fee y_goesTo y_priceWas y_isKept y_kept y_trace) S gX9_count_X9_howMany rfl hdV_X9_howMany ⟨Nat.le_of_ble_eq_true rfl, Nat.le_of_ble_eq_true rfl⟩ ⟨Nat.le_of_ble_eq_true rfl, Nat.le_of_ble_eq_true rfl⟩ hK hP hD rfl rfl [0, 1] rfl (by decide) rfl hl.1 rfl (Nat.le_of_ble_eq_true rfl) dX9_count_117) hP hD hS hA [0, 1] [] rfl rfl (by decide) (by decide) (fun r_2 w_3 H locs hw_4 hP hD hS => ?_)
  obtain ⟨rfl, rfl⟩ := hw_4
  have hP := hP.sub (ws' := []) [] rfl
  have hD := hD.sub (ws' := []) [] (by decide) rfl
  exact b_iret S.1 S.2.1 X.2.1 X.2.2.1 hP hD hS ⟨rfl, rfl⟩ dX9_count_120
set_option maxHeartbeats 4000000 in
set_option maxRecDepth 100000 in
theorem c_X9_count_6 (l : Launch) (D : va_G) (cI cZ cC cS : ClassId) (sq sz : Nat) (y : Nat) (y_lane : Nat) (y_many : Nat) (y_item : Nat) (y_city : Nat) (y_fresh : Nat) (y_tape : Nat) (y_cost : Nat) (y_away : Nat) (y_fee : Nat) (y_goesTo : Nat) (y_priceWas : Nat) (y_isKept : Nat) (y_kept : Nat) (y_trace : Nat) : mI l yX9_count wsX9_count 0 0 D (tyW cI cZ cC cS) sq [(y, .inr (9, [.int 0, .int 0, .ref y_lane, .ref y_many, .ref y_item, .ref y_city, .ref y_fresh, .int 0, .ref y_tape, .int 0, .int 0, .int 0, .int 0, .int 0, .int 0, .int 0, .int 0, .int 0, .int 0, .int 0, .ref y_cost, .ref y_away, .ref y_fee, .ref y_goesTo, .ref y_priceWas, .ref y_isKept, .ref y_kept, .ref y_trace, .int 0]))] sz [.ref y, .int 6] (fun r w => r = 0 ∧ w = []) := by
  refine b_metI (cc := cX9_count) (maxL := 4) (ret := (some .int)) (by decide) rfl (Nat.le_of_ble_eq_true rfl) ?_
  intro p e s m below meth c ls A H X hsz hP hK hD hA hS hl
  have S : CallFix p m c cX9_count 4 s ([.ref y, .int 6] : List Value).toArray wsX9_count RX9 := X.1
  have hl : lv_has ls 4 [(0, .ref y), (1, .int 6)] := hl
  have iX9 := jX9_count_X9
  refine lv_aload_n S.1 S.2.1 dX9_count_0 rfl (lv_at hl 0 rfl) ?_
  refine lv_iconst (v := 0) S.1 S.2.1 dX9_count_1 (by decide) ?_
  refine b_put (v := .int 0) S iX9 tyX9 tyX9_ok nmX9 hK hP hD hS 0 rfl rfl 0 (by decide) (by decide +kernel) rfl rfl rfl (Nat.le_of_ble_eq_true rfl) dX9_count_2 (fun H locs hP hD hS => ?_)
  have hP : va_P D vwCl [(y, .inr (9, [.int 0, .int 0, .ref y_lane, .ref y_many, .ref y_item, .ref y_city, .ref y_fresh, .int 0, .ref y_tape, .int 0, .int 0, .int 0, .int 0, .int 0, .int 0, .int 0, .int 0, .int 0, .int 0, .int 0, .ref y_cost, .ref y_away, .ref y_fee, .ref y_goesTo, .ref y_priceWas, .ref y_isKept, .ref y_kept, .ref y_trace, .int 0]))] H := hP
  have hD : va_D A [(y, .inr (9, [.int 0, .int 0, .ref y_lane, .ref y_many, .ref y_item, .ref y_city, .ref y_fresh, .int 0, .ref y_tape, .int 0, .int 0, .int 0, .int 0, .int 0, .int 0, .int 0, .int 0, .int 0, .int 0, .int 0, .ref y_cost, .ref y_away, .ref y_fee, .ref y_goesTo, .ref y_priceWas, .ref y_isKept, .ref y_kept, .ref y_trace, .int 0]))] := hD
  refine lv_iconst (v := 0) S.1 S.2.1 dX9_count_5 (by decide) ?_
  refine lv_istore_n (lv' := [(2, .int 0), (0, .ref y), (1, .int 6)]) S.1 S.2.1 dX9_count_6 rfl hl (by decide) rfl (fun ls hl => ?_)
  refine lv_iload_n S.1 S.2.1 dX9_count_7 rfl (lv_at hl 2 rfl) ?_
  refine lv_tableIn (off := 113) (tgt := 121) S.1 S.2.1 dX9_count_8 (by decide) (by decide) (by decide) (by decide) ?_
  refine lv_aload_n S.1 S.2.1 dX9_count_121 rfl (lv_at hl 1 rfl) ?_
  refine b_get (v := .int 0) S iX9 hK hP 0 rfl rfl 9 (by decide) (by decide +kernel) rfl dX9_count_122 ?_
  have hP := hP.sub (ws' := []) [] rfl
  have hD := hD.sub (ws' := []) [] (by decide) rfl
  exact b_iret S.1 S.2.1 X.2.1 X.2.2.1 hP hD hS ⟨rfl, rfl⟩ dX9_count_125
set_option maxHeartbeats 4000000 in
set_option maxRecDepth 100000 in
theorem c_X9_count_d (l : Launch) (D : va_G) (cI cZ cC cS : ClassId) (sq sz : Nat) (y : Nat) (y_lane : Nat) (y_many : Nat) (y_item : Nat) (y_city : Nat) (y_fresh : Nat) (y_tape : Nat) (y_cost : Nat) (y_away : Nat) (y_fee : Nat) (y_goesTo : Nat) (y_priceWas : Nat) (y_isKept : Nat) (y_kept : Nat) (y_trace : Nat) (a : Int32) (hr : a.toInt < 0 ∨ 6 < a.toInt) : mI l yX9_count wsX9_count 0 0 D (tyW cI cZ cC cS) sq [(y, .inr (9, [.int 0, .int 0, .ref y_lane, .ref y_many, .ref y_item, .ref y_city, .ref y_fresh, .int 0, .ref y_tape, .int 0, .int 0, .int 0, .int 0, .int 0, .int 0, .int 0, .int 0, .int 0, .int 0, .int 0, .ref y_cost, .ref y_away, .ref y_fee, .ref y_goesTo, .ref y_priceWas, .ref y_isKept, .ref y_kept, .ref y_trace, .int 0]))] sz [.ref y, .int a] (fun r w => r = -1000001 ∧ w = []) := by
  refine b_metI (cc := cX9_count) (maxL := 4) (ret := (some .int)) (by decide) rfl (Nat.le_of_ble_eq_true rfl) ?_
  intro p e s m below meth c ls A H X hsz hP hK hD hA hS hl
  have S : CallFix p m c cX9_count 4 s ([.ref y, .int a] : List Value).toArray wsX9_count RX9 := X.1
  have hl : lv_has ls 4 [(0, .ref y), (1, .int a)] := hl
  have iX9 := jX9_count_X9
  refine lv_aload_n S.1 S.2.1 dX9_count_0 rfl (lv_at hl 0 rfl) ?_
  refine lv_iconst (v := 0) S.1 S.2.1 dX9_count_1 (by decide) ?_
  refine b_put (v := .int 0) S iX9 tyX9 tyX9_ok nmX9 hK hP hD hS 0 rfl rfl 0 (by decide) (by decide +kernel) rfl rfl rfl (Nat.le_of_ble_eq_true rfl) dX9_count_2 (fun H locs hP hD hS => ?_)
  have hP : va_P D vwCl [(y, .inr (9, [.int 0, .int 0, .ref y_lane, .ref y_many, .ref y_item, .ref y_city, .ref y_fresh, .int 0, .ref y_tape, .int 0, .int 0, .int 0, .int 0, .int 0, .int 0, .int 0, .int 0, .int 0, .int 0, .int 0, .ref y_cost, .ref y_away, .ref y_fee, .ref y_goesTo, .ref y_priceWas, .ref y_isKept, .ref y_kept, .ref y_trace, .int 0]))] H := hP
  have hD : va_D A [(y, .inr (9, [.int 0, .int 0, .ref y_lane, .ref y_many, .ref y_item, .ref y_city, .ref y_fresh, .int 0, .ref y_tape, .int 0, .int 0, .int 0, .int 0, .int 0, .int 0, .int 0, .int 0, .int 0, .int 0, .int 0, .ref y_cost, .ref y_away, .ref y_fee, .ref y_goesTo, .ref y_priceWas, .ref y_isKept, .ref y_kept, .ref y_trace, .int 0]))] := hD
  refine lv_iconst (v := 0) S.1 S.2.1 dX9_count_5 (by decide) ?_
  refine lv_istore_n (lv' := [(2, .int 0), (0, .ref y), (1, .int a)]) S.1 S.2.1 dX9_count_6 rfl hl (by decide) rfl (fun ls hl => ?_)
  refine lv_iload_n S.1 S.2.1 dX9_count_7 rfl (lv_at hl 2 rfl) ?_
  refine lv_tableOut (tgt := 126) S.1 S.2.1 dX9_count_8 hr (by decide) ?_
  refine lv_ldc (v := (-1000001)) S.1 S.2.1 S.2.2.2.1 (S.2.2.2.2 (.constant RX9 73 (-1000001)) (by decide +kernel)) dX9_count_126 ?_
  have hP := hP.sub (ws' := []) [] rfl
  have hD := hD.sub (ws' := []) [] (by decide) rfl
  exact b_iret S.1 S.2.1 X.2.1 X.2.2.1 hP hD hS ⟨rfl, rfl⟩ dX9_count_128
