set_option maxRecDepth 20000 in
theorem ggX8_as_X1_isCell : GoodIn wsX8_as wsX1_isCell := goodIn_r _ [8, 9, 10, 69, 70, 71, 72, 73, 74, 75, 76, 77, 78, 79, 80] (by decide +kernel) (by decide +kernel)
set_option maxRecDepth 20000 in
theorem gX8_as_X1_isCell : GoodIn wsX8_as (wsV RX8 278 RX1 yX1_isCell wsX1_isCell) := goodIn_app (goodIn_of _ (by decide +kernel)) ggX8_as_X1_isCell
set_option maxRecDepth 20000 in
theorem ggX8_ask_X1_isCell : GoodIn wsX8_ask wsX1_isCell := goodIn_r _ [8, 9, 10, 79, 80, 81, 82, 83, 84, 85, 86, 87, 88, 89, 90] (by decide +kernel) (by decide +kernel)
set_option maxRecDepth 20000 in
theorem gX8_ask_X1_isCell : GoodIn wsX8_ask (wsV RX8 278 RX1 yX1_isCell wsX1_isCell) := goodIn_app (goodIn_of _ (by decide +kernel)) ggX8_ask_X1_isCell
set_option maxRecDepth 20000 in
theorem ggX8_beauty_X8_noCity : GoodIn wsX8_beauty wsX8_noCity := goodIn_r _ [8, 3, 9, 10, 11, 12, 13, 14, 35, 36, 37, 38, 39, 40, 41, 42, 43, 44, 45, 46, 47, 48, 49, 50, 51, 52, 53, 54, 55, 56, 57, 58, 59] (by decide +kernel) (by decide +kernel)
set_option maxRecDepth 20000 in
theorem gX8_beauty_X8_noCity : GoodIn wsX8_beauty (wsV RX8 181 RX8 yX8_noCity wsX8_noCity) := goodIn_app (goodIn_of _ (by decide +kernel)) ggX8_beauty_X8_noCity
set_option maxRecDepth 20000 in
theorem ggX8_copy_X4_isMissing : GoodIn wsX8_copy wsX4_isMissing := goodIn_r _ [20, 21, 50, 51, 52] (by decide +kernel) (by decide +kernel)
set_option maxRecDepth 20000 in
theorem gX8_copy_X4_isMissing : GoodIn wsX8_copy (wsV RX8 110 RX4 yX4_isMissing wsX4_isMissing) := goodIn_app (goodIn_of _ (by decide +kernel)) ggX8_copy_X4_isMissing
set_option maxRecDepth 20000 in
theorem ggX8_copy_X8_found : GoodIn wsX8_copy wsX8_found := goodIn_r _ [25, 26, 27, 37, 38, 39, 40, 41, 42, 43, 44, 45, 46, 47, 48, 49] (by decide +kernel) (by decide +kernel)
set_option maxRecDepth 20000 in
theorem gX8_copy_X8_found : GoodIn wsX8_copy (wsV RX8 99 RX8 yX8_found wsX8_found) := goodIn_app (goodIn_of _ (by decide +kernel)) ggX8_copy_X8_found
set_option maxRecDepth 20000 in
theorem ggX8_copy_X8_isSheet : GoodIn wsX8_copy wsX8_isSheet := goodIn_r _ [12, 13, 14, 11, 15] (by decide +kernel) (by decide +kernel)
set_option maxRecDepth 20000 in
theorem gX8_copy_X8_isSheet : GoodIn wsX8_copy (va_wsS RX8 90 yX8_isSheet wsX8_isSheet) := goodIn_app (goodIn_of _ (by decide +kernel)) ggX8_copy_X8_isSheet
set_option maxRecDepth 20000 in
theorem ggX8_drop_X4_isMissing : GoodIn wsX8_drop wsX4_isMissing := goodIn_r _ [15, 16, 50, 51, 52] (by decide +kernel) (by decide +kernel)
set_option maxRecDepth 20000 in
theorem gX8_drop_X4_isMissing : GoodIn wsX8_drop (wsV RX8 110 RX4 yX4_isMissing wsX4_isMissing) := goodIn_app (goodIn_of _ (by decide +kernel)) ggX8_drop_X4_isMissing
set_option maxRecDepth 20000 in
theorem ggX8_drop_X8_found : GoodIn wsX8_drop wsX8_found := goodIn_r _ [20, 21, 22, 37, 38, 39, 40, 41, 42, 43, 44, 45, 46, 47, 48, 49] (by decide +kernel) (by decide +kernel)
set_option maxRecDepth 20000 in
theorem gX8_drop_X8_found : GoodIn wsX8_drop (wsV RX8 99 RX8 yX8_found wsX8_found) := goodIn_app (goodIn_of _ (by decide +kernel)) ggX8_drop_X8_found
set_option maxRecDepth 20000 in
theorem ggX8_drop_X8_isSheet : GoodIn wsX8_drop wsX8_isSheet := goodIn_r _ [7, 8, 9, 6, 10] (by decide +kernel) (by decide +kernel)
set_option maxRecDepth 20000 in
theorem gX8_drop_X8_isSheet : GoodIn wsX8_drop (va_wsS RX8 90 yX8_isSheet wsX8_isSheet) := goodIn_app (goodIn_of _ (by decide +kernel)) ggX8_drop_X8_isSheet
set_option maxRecDepth 20000 in
theorem ggX8_earns_X8_noCity : GoodIn wsX8_earns wsX8_noCity := goodIn_r _ [9, 10, 11, 12, 13, 14, 15, 16, 126, 127, 128, 129, 130, 131, 132, 133, 134, 135, 136, 137, 138, 139, 140, 141, 142, 143, 144, 145, 146, 147, 148, 149, 150] (by decide +kernel) (by decide +kernel)
set_option maxRecDepth 20000 in
theorem gX8_earns_X8_noCity : GoodIn wsX8_earns (wsV RX8 181 RX8 yX8_noCity wsX8_noCity) := goodIn_app (goodIn_of _ (by decide +kernel)) ggX8_earns_X8_noCity
set_option maxRecDepth 20000 in
theorem ggX8_feed_X5_append : GoodIn wsX8_feed wsX5_append := goodIn_r _ [14, 15, 10, 29, 30, 31, 32, 33, 34] (by decide +kernel) (by decide +kernel)
set_option maxRecDepth 20000 in
theorem gX8_feed_X5_append : GoodIn wsX8_feed (wsV RX8 141 RX5 yX5_append wsX5_append) := goodIn_app (goodIn_of _ (by decide +kernel)) ggX8_feed_X5_append
set_option maxRecDepth 20000 in
theorem ggX8_feed_X5_hasRoom : GoodIn wsX8_feed wsX5_hasRoom := goodIn_r _ [9, 10, 29, 30, 31, 32, 33, 34] (by decide +kernel) (by decide +kernel)
set_option maxRecDepth 20000 in
theorem gX8_feed_X5_hasRoom : GoodIn wsX8_feed (wsV RX8 137 RX5 yX5_hasRoom wsX5_hasRoom) := goodIn_app (goodIn_of _ (by decide +kernel)) ggX8_feed_X5_hasRoom
set_option maxRecDepth 20000 in
theorem ggX8_got_X8_noCity : GoodIn wsX8_got wsX8_noCity := goodIn_r _ [8, 2, 9, 10, 11, 12, 13, 14, 27, 28, 29, 30, 31, 32, 33, 34, 35, 36, 37, 38, 39, 40, 41, 42, 43, 44, 45, 46, 47, 48, 49, 50, 51] (by decide +kernel) (by decide +kernel)
set_option maxRecDepth 20000 in
theorem gX8_got_X8_noCity : GoodIn wsX8_got (wsV RX8 181 RX8 yX8_noCity wsX8_noCity) := goodIn_app (goodIn_of _ (by decide +kernel)) ggX8_got_X8_noCity
set_option maxRecDepth 20000 in
theorem ggX8_home_X8_isPerson : GoodIn wsX8_home wsX8_isPerson := goodIn_r _ [11, 4, 12, 13, 14, 10, 15, 93, 94, 95, 96, 97, 98, 99, 100, 101, 102, 103, 104, 105, 106, 107, 108, 109, 110, 111, 112, 113, 114, 115, 116, 117] (by decide +kernel) (by decide +kernel)
set_option maxRecDepth 20000 in
theorem gX8_home_X8_isPerson : GoodIn wsX8_home (wsV RX8 191 RX8 yX8_isPerson wsX8_isPerson) := goodIn_app (goodIn_of _ (by decide +kernel)) ggX8_home_X8_isPerson
set_option maxRecDepth 20000 in
theorem ggX8_image_X8_noCity : GoodIn wsX8_image wsX8_noCity := goodIn_r _ [12, 4, 13, 14, 15, 16, 17, 18, 38, 39, 40, 41, 42, 43, 44, 45, 46, 47, 48, 49, 50, 51, 52, 53, 54, 55, 56, 57, 58, 59, 60, 61, 62] (by decide +kernel) (by decide +kernel)
set_option maxRecDepth 20000 in
theorem gX8_image_X8_noCity : GoodIn wsX8_image (wsV RX8 181 RX8 yX8_noCity wsX8_noCity) := goodIn_app (goodIn_of _ (by decide +kernel)) ggX8_image_X8_noCity
set_option maxRecDepth 20000 in
theorem ggX8_image_X8_within : GoodIn wsX8_image wsX8_within := goodIn_r _ [8] (by decide +kernel) (by decide +kernel)
set_option maxRecDepth 20000 in
theorem gX8_image_X8_within : GoodIn wsX8_image (va_wsS RX8 94 yX8_within wsX8_within) := goodIn_app (goodIn_of _ (by decide +kernel)) ggX8_image_X8_within
set_option maxRecDepth 20000 in
theorem ggX8_isPerson_X8_within : GoodIn wsX8_isPerson wsX8_within := goodIn_r _ [6] (by decide +kernel) (by decide +kernel)
set_option maxRecDepth 20000 in
theorem gX8_isPerson_X8_within : GoodIn wsX8_isPerson (va_wsS RX8 94 yX8_within wsX8_within) := goodIn_app (goodIn_of _ (by decide +kernel)) ggX8_isPerson_X8_within
set_option maxRecDepth 20000 in
theorem ggX8_kind_X1_isCell : GoodIn wsX8_kind wsX1_isCell := goodIn_r _ [8, 9, 10, 50, 51, 52, 53, 54, 55, 56, 57, 58, 59, 60, 61] (by decide +kernel) (by decide +kernel)
set_option maxRecDepth 20000 in
theorem gX8_kind_X1_isCell : GoodIn wsX8_kind (wsV RX8 278 RX1 yX1_isCell wsX1_isCell) := goodIn_app (goodIn_of _ (by decide +kernel)) ggX8_kind_X1_isCell
set_option maxRecDepth 20000 in
theorem ggX8_look_X1_isOpen : GoodIn wsX8_look wsX1_isOpen := goodIn_r _ [11, 12, 13, 14, 15, 10, 16, 17, 18, 55, 56, 57, 58, 59, 60, 61, 62, 63, 64, 65, 66] (by decide +kernel) (by decide +kernel)
set_option maxRecDepth 20000 in
theorem gX8_look_X1_isOpen : GoodIn wsX8_look (wsV RX8 165 RX1 yX1_isOpen wsX1_isOpen) := goodIn_app (goodIn_of _ (by decide +kernel)) ggX8_look_X1_isOpen
set_option maxRecDepth 20000 in
theorem ggX8_noCity_X1_isNone : GoodIn wsX8_noCity wsX1_isNone := goodIn_r _ [6, 7, 21, 22, 23, 24, 25, 26, 27, 28, 29, 30, 31, 32] (by decide +kernel) (by decide +kernel)
set_option maxRecDepth 20000 in
theorem gX8_noCity_X1_isNone : GoodIn wsX8_noCity (wsV RX8 275 RX1 yX1_isNone wsX1_isNone) := goodIn_app (goodIn_of _ (by decide +kernel)) ggX8_noCity_X1_isNone
set_option maxRecDepth 20000 in
theorem ggX8_nothing_X8_isPerson : GoodIn wsX8_nothing wsX8_isPerson := goodIn_r _ [11, 4, 12, 13, 14, 10, 15, 75, 76, 77, 78, 79, 80, 81, 82, 83, 84, 85, 86, 87, 88, 89, 90, 91, 92, 93, 94, 95, 96, 97, 98, 99] (by decide +kernel) (by decide +kernel)
set_option maxRecDepth 20000 in
theorem gX8_nothing_X8_isPerson : GoodIn wsX8_nothing (wsV RX8 191 RX8 yX8_isPerson wsX8_isPerson) := goodIn_app (goodIn_of _ (by decide +kernel)) ggX8_nothing_X8_isPerson
set_option maxRecDepth 20000 in
theorem ggX8_person_X8_isPerson : GoodIn wsX8_person wsX8_isPerson := goodIn_r _ [13, 2, 14, 15, 16, 12, 17, 24, 25, 26, 27, 28, 29, 30, 31, 32, 33, 34, 35, 36, 37, 38, 39, 40, 41, 42, 43, 44, 45, 46, 47, 48] (by decide +kernel) (by decide +kernel)
set_option maxRecDepth 20000 in
theorem gX8_person_X8_isPerson : GoodIn wsX8_person (wsV RX8 191 RX8 yX8_isPerson wsX8_isPerson) := goodIn_app (goodIn_of _ (by decide +kernel)) ggX8_person_X8_isPerson
set_option maxRecDepth 20000 in
theorem ggX8_price_X8_noCity : GoodIn wsX8_price wsX8_noCity := goodIn_r _ [9, 3, 10, 11, 12, 13, 14, 15, 22, 23, 24, 25, 26, 27, 28, 29, 30, 31, 32, 33, 34, 35, 36, 37, 38, 39, 40, 41, 42, 43, 44, 45, 46] (by decide +kernel) (by decide +kernel)
set_option maxRecDepth 20000 in
theorem gX8_price_X8_noCity : GoodIn wsX8_price (wsV RX8 181 RX8 yX8_noCity wsX8_noCity) := goodIn_app (goodIn_of _ (by decide +kernel)) ggX8_price_X8_noCity
set_option maxRecDepth 20000 in
theorem ggX8_restore_X1_isNone : GoodIn wsX8_restore wsX1_isNone := goodIn_r _ [14, 15, 89, 90, 91, 92, 93, 94, 95, 96, 97, 98, 99, 100] (by decide +kernel) (by decide +kernel)
set_option maxRecDepth 20000 in
theorem gX8_restore_X1_isNone : GoodIn wsX8_restore (wsV RX8 275 RX1 yX1_isNone wsX1_isNone) := goodIn_app (goodIn_of _ (by decide +kernel)) ggX8_restore_X1_isNone
set_option maxRecDepth 20000 in
theorem ggX8_restore_X8_within : GoodIn wsX8_restore wsX8_within := goodIn_r _ [9] (by decide +kernel) (by decide +kernel)
set_option maxRecDepth 20000 in
theorem gX8_restore_X8_within : GoodIn wsX8_restore (va_wsS RX8 94 yX8_within wsX8_within) := goodIn_app (goodIn_of _ (by decide +kernel)) ggX8_restore_X8_within
set_option maxRecDepth 20000 in
theorem ggX8_rivals_X8_noCity : GoodIn wsX8_rivals wsX8_noCity := goodIn_r _ [10, 11, 12, 13, 14, 15, 16, 17, 142, 143, 144, 145, 146, 147, 148, 149, 150, 151, 152, 153, 154, 160, 161, 162, 163, 164, 165, 166, 167, 168, 169, 170, 171] (by decide +kernel) (by decide +kernel)
set_option maxRecDepth 20000 in
theorem gX8_rivals_X8_noCity : GoodIn wsX8_rivals (wsV RX8 181 RX8 yX8_noCity wsX8_noCity) := goodIn_app (goodIn_of _ (by decide +kernel)) ggX8_rivals_X8_noCity
set_option maxRecDepth 20000 in
theorem ggX8_set_X4_isMissing : GoodIn wsX8_set wsX4_isMissing := goodIn_r _ [15, 16, 45, 46, 47] (by decide +kernel) (by decide +kernel)
set_option maxRecDepth 20000 in
theorem gX8_set_X4_isMissing : GoodIn wsX8_set (wsV RX8 110 RX4 yX4_isMissing wsX4_isMissing) := goodIn_app (goodIn_of _ (by decide +kernel)) ggX8_set_X4_isMissing
set_option maxRecDepth 20000 in
theorem ggX8_set_X8_found : GoodIn wsX8_set wsX8_found := goodIn_r _ [20, 21, 22, 32, 33, 34, 35, 36, 37, 38, 39, 40, 41, 42, 43, 44] (by decide +kernel) (by decide +kernel)
set_option maxRecDepth 20000 in
theorem gX8_set_X8_found : GoodIn wsX8_set (wsV RX8 99 RX8 yX8_found wsX8_found) := goodIn_app (goodIn_of _ (by decide +kernel)) ggX8_set_X8_found
set_option maxRecDepth 20000 in
theorem ggX8_set_X8_isSheet : GoodIn wsX8_set wsX8_isSheet := goodIn_r _ [7, 8, 9, 6, 10] (by decide +kernel) (by decide +kernel)
set_option maxRecDepth 20000 in
theorem gX8_set_X8_isSheet : GoodIn wsX8_set (va_wsS RX8 90 yX8_isSheet wsX8_isSheet) := goodIn_app (goodIn_of _ (by decide +kernel)) ggX8_set_X8_isSheet
set_option maxRecDepth 20000 in
theorem ggX8_sheet_X4_begin : GoodIn wsX8_sheet wsX4_begin := goodIn_r _ [20, 21, 22, 23, 24, 25, 26, 27, 45, 46, 47] (by decide +kernel) (by decide +kernel)
set_option maxRecDepth 20000 in
theorem gX8_sheet_X4_begin : GoodIn wsX8_sheet (wsV RX8 103 RX4 yX4_begin wsX4_begin) := goodIn_app (goodIn_of _ (by decide +kernel)) ggX8_sheet_X4_begin
set_option maxRecDepth 20000 in
theorem ggX8_sheet_X8_fine : GoodIn wsX8_sheet wsX8_fine := goodIn_r _ [31, 14, 32, 33, 34, 35, 36, 37, 38, 39, 40, 41, 42, 43, 44] (by decide +kernel) (by decide +kernel)
set_option maxRecDepth 20000 in
theorem gX8_sheet_X8_fine : GoodIn wsX8_sheet (wsV RX8 107 RX8 yX8_fine wsX8_fine) := goodIn_app (goodIn_of _ (by decide +kernel)) ggX8_sheet_X8_fine
set_option maxRecDepth 20000 in
theorem ggX8_sheet_X8_found : GoodIn wsX8_sheet wsX8_found := goodIn_r _ [13, 14, 15, 32, 33, 34, 35, 36, 37, 38, 39, 40, 41, 42, 43, 44] (by decide +kernel) (by decide +kernel)
set_option maxRecDepth 20000 in
theorem gX8_sheet_X8_found : GoodIn wsX8_sheet (wsV RX8 99 RX8 yX8_found wsX8_found) := goodIn_app (goodIn_of _ (by decide +kernel)) ggX8_sheet_X8_found
set_option maxRecDepth 20000 in
theorem ggX8_sheet_X8_isSheet : GoodIn wsX8_sheet wsX8_isSheet := goodIn_r _ [6, 7, 8, 5, 9] (by decide +kernel) (by decide +kernel)
set_option maxRecDepth 20000 in
theorem gX8_sheet_X8_isSheet : GoodIn wsX8_sheet (va_wsS RX8 90 yX8_isSheet wsX8_isSheet) := goodIn_app (goodIn_of _ (by decide +kernel)) ggX8_sheet_X8_isSheet
set_option maxRecDepth 20000 in
theorem ggX8_sheet_X8_within : GoodIn wsX8_sheet wsX8_within := goodIn_r _ [9] (by decide +kernel) (by decide +kernel)
set_option maxRecDepth 20000 in
theorem gX8_sheet_X8_within : GoodIn wsX8_sheet (va_wsS RX8 94 yX8_within wsX8_within) := goodIn_app (goodIn_of _ (by decide +kernel)) ggX8_sheet_X8_within
set_option maxRecDepth 20000 in
theorem ggX8_step_X8_isPerson : GoodIn wsX8_step wsX8_isPerson := goodIn_r _ [6, 7, 8, 9, 10, 5, 11, 46, 47, 48, 49, 50, 51, 52, 53, 54, 55, 56, 57, 58, 59, 60, 61, 62, 63, 64, 65, 66, 67, 68, 69, 70] (by decide +kernel) (by decide +kernel)
set_option maxRecDepth 20000 in
theorem gX8_step_X8_isPerson : GoodIn wsX8_step (wsV RX8 191 RX8 yX8_isPerson wsX8_isPerson) := goodIn_app (goodIn_of _ (by decide +kernel)) ggX8_step_X8_isPerson
set_option maxRecDepth 20000 in
theorem ggX8_trace_X8_within : GoodIn wsX8_trace wsX8_within := goodIn_r _ [8] (by decide +kernel) (by decide +kernel)
set_option maxRecDepth 20000 in
theorem gX8_trace_X8_within : GoodIn wsX8_trace (va_wsS RX8 94 yX8_within wsX8_within) := goodIn_app (goodIn_of _ (by decide +kernel)) ggX8_trace_X8_within
set_option maxRecDepth 20000 in
theorem ggX8_walk_X8_isPerson : GoodIn wsX8_walk wsX8_isPerson := goodIn_r _ [8, 9, 10, 11, 12, 7, 13, 72, 73, 74, 75, 76, 77, 78, 79, 80, 81, 82, 83, 84, 88, 89, 90, 91, 92, 93, 94, 95, 96, 97, 98, 99] (by decide +kernel) (by decide +kernel)
set_option maxRecDepth 20000 in
theorem gX8_walk_X8_isPerson : GoodIn wsX8_walk (wsV RX8 191 RX8 yX8_isPerson wsX8_isPerson) := goodIn_app (goodIn_of _ (by decide +kernel)) ggX8_walk_X8_isPerson
set_option maxRecDepth 20000 in
theorem ggX8_wall_X1_isOpen : GoodIn wsX8_wall wsX1_isOpen := goodIn_r _ [11, 12, 13, 14, 15, 10, 16, 17, 18, 167, 168, 169, 170, 171, 172, 173, 174, 175, 176, 177, 178] (by decide +kernel) (by decide +kernel)
set_option maxRecDepth 20000 in
theorem gX8_wall_X1_isOpen : GoodIn wsX8_wall (wsV RX8 165 RX1 yX1_isOpen wsX1_isOpen) := goodIn_app (goodIn_of _ (by decide +kernel)) ggX8_wall_X1_isOpen
set_option maxRecDepth 20000 in
theorem ggX8_witnesses_X8_noCity : GoodIn wsX8_witnesses wsX8_noCity := goodIn_r _ [8, 2, 9, 10, 11, 12, 13, 14, 27, 28, 29, 30, 31, 32, 33, 34, 35, 36, 37, 38, 39, 40, 41, 42, 43, 44, 45, 46, 47, 48, 49, 50, 51] (by decide +kernel) (by decide +kernel)
set_option maxRecDepth 20000 in
theorem gX8_witnesses_X8_noCity : GoodIn wsX8_witnesses (wsV RX8 181 RX8 yX8_noCity wsX8_noCity) := goodIn_app (goodIn_of _ (by decide +kernel)) ggX8_witnesses_X8_noCity
theorem dX8_as_0 : decode cX8_as 0 = .ok (.aload_n 0, 1) := by decide +kernel
theorem dX8_as_1 : decode cX8_as 1 = .ok (.getfield 25, 3) := by decide +kernel
theorem dX8_as_20 : decode cX8_as 20 = .ok (.ldc 98, 2) := by decide +kernel
theorem dX8_as_22 : decode cX8_as 22 = .ok (.ireturn, 1) := by decide +kernel
theorem dX8_as_4 : decode cX8_as 4 = .ok (.iload_n 1, 1) := by decide +kernel
theorem dX8_as_5 : decode cX8_as 5 = .ok (.invokevirtual 278, 3) := by decide +kernel
theorem dX8_as_8 : decode cX8_as 8 = .ok (.ifCond .eq 12, 3) := by decide +kernel
theorem dX8_ask_0 : decode cX8_ask 0 = .ok (.aload_n 0, 1) := by decide +kernel
theorem dX8_ask_1 : decode cX8_ask 1 = .ok (.getfield 25, 3) := by decide +kernel
theorem dX8_ask_19 : decode cX8_ask 19 = .ok (.ldc 98, 2) := by decide +kernel
theorem dX8_ask_21 : decode cX8_ask 21 = .ok (.ireturn, 1) := by decide +kernel
theorem dX8_ask_4 : decode cX8_ask 4 = .ok (.iload_n 1, 1) := by decide +kernel
theorem dX8_ask_5 : decode cX8_ask 5 = .ok (.invokevirtual 278, 3) := by decide +kernel
theorem dX8_ask_8 : decode cX8_ask 8 = .ok (.ifCond .eq 11, 3) := by decide +kernel
theorem dX8_beauty_0 : decode cX8_beauty 0 = .ok (.aload_n 0, 1) := by decide +kernel
theorem dX8_beauty_1 : decode cX8_beauty 1 = .ok (.invokevirtual 181, 3) := by decide +kernel
theorem dX8_beauty_4 : decode cX8_beauty 4 = .ok (.ifCond .eq 6, 3) := by decide +kernel
theorem dX8_beauty_7 : decode cX8_beauty 7 = .ok (.ldc 184, 2) := by decide +kernel
theorem dX8_beauty_9 : decode cX8_beauty 9 = .ok (.ireturn, 1) := by decide +kernel
theorem dX8_copy_0 : decode cX8_copy 0 = .ok (.iload_n 1, 1) := by decide +kernel
theorem dX8_copy_1 : decode cX8_copy 1 = .ok (.invokestatic 90, 3) := by decide +kernel
theorem dX8_copy_11 : decode cX8_copy 11 = .ok (.ifCond .ne 6, 3) := by decide +kernel
theorem dX8_copy_14 : decode cX8_copy 14 = .ok (.ldc 98, 2) := by decide +kernel
theorem dX8_copy_16 : decode cX8_copy 16 = .ok (.ireturn, 1) := by decide +kernel
theorem dX8_copy_17 : decode cX8_copy 17 = .ok (.aload_n 0, 1) := by decide +kernel
theorem dX8_copy_18 : decode cX8_copy 18 = .ok (.getfield 11, 3) := by decide +kernel
theorem dX8_copy_21 : decode cX8_copy 21 = .ok (.iload_n 1, 1) := by decide +kernel
theorem dX8_copy_22 : decode cX8_copy 22 = .ok (.aaload, 1) := by decide +kernel
theorem dX8_copy_23 : decode cX8_copy 23 = .ok (.astore 6, 2) := by decide +kernel
theorem dX8_copy_25 : decode cX8_copy 25 = .ok (.aload_n 0, 1) := by decide +kernel
theorem dX8_copy_26 : decode cX8_copy 26 = .ok (.getfield 11, 3) := by decide +kernel
theorem dX8_copy_29 : decode cX8_copy 29 = .ok (.iload_n 3, 1) := by decide +kernel
theorem dX8_copy_30 : decode cX8_copy 30 = .ok (.aaload, 1) := by decide +kernel
theorem dX8_copy_31 : decode cX8_copy 31 = .ok (.astore 7, 2) := by decide +kernel
theorem dX8_copy_33 : decode cX8_copy 33 = .ok (.aload 6, 2) := by decide +kernel
theorem dX8_copy_35 : decode cX8_copy 35 = .ok (.invokevirtual 110, 3) := by decide +kernel
theorem dX8_copy_38 : decode cX8_copy 38 = .ok (.ifCond .ne 11, 3) := by decide +kernel
theorem dX8_copy_4 : decode cX8_copy 4 = .ok (.ifCond .eq 10, 3) := by decide +kernel
theorem dX8_copy_49 : decode cX8_copy 49 = .ok (.aload_n 0, 1) := by decide +kernel
theorem dX8_copy_50 : decode cX8_copy 50 = .ok (.iconst 1, 1) := by decide +kernel
theorem dX8_copy_51 : decode cX8_copy 51 = .ok (.invokevirtual 99, 3) := by decide +kernel
theorem dX8_copy_54 : decode cX8_copy 54 = .ok (.ireturn, 1) := by decide +kernel
theorem dX8_copy_7 : decode cX8_copy 7 = .ok (.iload_n 3, 1) := by decide +kernel
theorem dX8_copy_8 : decode cX8_copy 8 = .ok (.invokestatic 90, 3) := by decide +kernel
theorem dX8_drop_0 : decode cX8_drop 0 = .ok (.iload_n 1, 1) := by decide +kernel
theorem dX8_drop_1 : decode cX8_drop 1 = .ok (.invokestatic 90, 3) := by decide +kernel
theorem dX8_drop_10 : decode cX8_drop 10 = .ok (.aload_n 0, 1) := by decide +kernel
theorem dX8_drop_11 : decode cX8_drop 11 = .ok (.getfield 11, 3) := by decide +kernel
theorem dX8_drop_14 : decode cX8_drop 14 = .ok (.iload_n 1, 1) := by decide +kernel
theorem dX8_drop_15 : decode cX8_drop 15 = .ok (.aaload, 1) := by decide +kernel
theorem dX8_drop_16 : decode cX8_drop 16 = .ok (.astore_n 2, 1) := by decide +kernel
theorem dX8_drop_17 : decode cX8_drop 17 = .ok (.aload_n 2, 1) := by decide +kernel
theorem dX8_drop_18 : decode cX8_drop 18 = .ok (.invokevirtual 110, 3) := by decide +kernel
theorem dX8_drop_21 : decode cX8_drop 21 = .ok (.ifCond .eq 9, 3) := by decide +kernel
theorem dX8_drop_24 : decode cX8_drop 24 = .ok (.aload_n 0, 1) := by decide +kernel
theorem dX8_drop_25 : decode cX8_drop 25 = .ok (.iconst 1, 1) := by decide +kernel
theorem dX8_drop_26 : decode cX8_drop 26 = .ok (.invokevirtual 99, 3) := by decide +kernel
theorem dX8_drop_29 : decode cX8_drop 29 = .ok (.ireturn, 1) := by decide +kernel
theorem dX8_drop_4 : decode cX8_drop 4 = .ok (.ifCond .ne 6, 3) := by decide +kernel
theorem dX8_drop_7 : decode cX8_drop 7 = .ok (.ldc 98, 2) := by decide +kernel
theorem dX8_drop_9 : decode cX8_drop 9 = .ok (.ireturn, 1) := by decide +kernel
theorem dX8_earns_0 : decode cX8_earns 0 = .ok (.aload_n 0, 1) := by decide +kernel
theorem dX8_earns_1 : decode cX8_earns 1 = .ok (.invokevirtual 181, 3) := by decide +kernel
theorem dX8_earns_4 : decode cX8_earns 4 = .ok (.ifCond .eq 6, 3) := by decide +kernel
theorem dX8_earns_7 : decode cX8_earns 7 = .ok (.ldc 184, 2) := by decide +kernel
theorem dX8_earns_9 : decode cX8_earns 9 = .ok (.ireturn, 1) := by decide +kernel
theorem dX8_fault_0 : decode cX8_fault 0 = .ok (.aload_n 0, 1) := by decide +kernel
theorem dX8_fault_1 : decode cX8_fault 1 = .ok (.getfield 82, 3) := by decide +kernel
theorem dX8_fault_4 : decode cX8_fault 4 = .ok (.ireturn, 1) := by decide +kernel
theorem dX8_feed_0 : decode cX8_feed 0 = .ok (.iload_n 3, 1) := by decide +kernel
theorem dX8_feed_1 : decode cX8_feed 1 = .ok (.iconst 1, 1) := by decide +kernel
theorem dX8_feed_11 : decode cX8_feed 11 = .ok (.ldc 98, 2) := by decide +kernel
theorem dX8_feed_13 : decode cX8_feed 13 = .ok (.ireturn, 1) := by decide +kernel
theorem dX8_feed_14 : decode cX8_feed 14 = .ok (.aload_n 0, 1) := by decide +kernel
theorem dX8_feed_15 : decode cX8_feed 15 = .ok (.getfield 18, 3) := by decide +kernel
theorem dX8_feed_18 : decode cX8_feed 18 = .ok (.iload_n 3, 1) := by decide +kernel
theorem dX8_feed_19 : decode cX8_feed 19 = .ok (.invokevirtual 137, 3) := by decide +kernel
theorem dX8_feed_2 : decode cX8_feed 2 = .ok (.if_icmp .lt 9, 3) := by decide +kernel
theorem dX8_feed_22 : decode cX8_feed 22 = .ok (.ifCond .ne 6, 3) := by decide +kernel
theorem dX8_feed_28 : decode cX8_feed 28 = .ok (.aload_n 0, 1) := by decide +kernel
theorem dX8_feed_29 : decode cX8_feed 29 = .ok (.getfield 18, 3) := by decide +kernel
theorem dX8_feed_32 : decode cX8_feed 32 = .ok (.lload_n 1, 1) := by decide +kernel
theorem dX8_feed_33 : decode cX8_feed 33 = .ok (.iload_n 3, 1) := by decide +kernel
theorem dX8_feed_34 : decode cX8_feed 34 = .ok (.invokevirtual 141, 3) := by decide +kernel
theorem dX8_feed_37 : decode cX8_feed 37 = .ok (.aload_n 0, 1) := by decide +kernel
theorem dX8_feed_38 : decode cX8_feed 38 = .ok (.getfield 18, 3) := by decide +kernel
theorem dX8_feed_41 : decode cX8_feed 41 = .ok (.getfield 145, 3) := by decide +kernel
theorem dX8_feed_44 : decode cX8_feed 44 = .ok (.ireturn, 1) := by decide +kernel
theorem dX8_feed_5 : decode cX8_feed 5 = .ok (.iload_n 3, 1) := by decide +kernel
theorem dX8_feed_6 : decode cX8_feed 6 = .ok (.bipush 8, 2) := by decide +kernel
theorem dX8_feed_8 : decode cX8_feed 8 = .ok (.if_icmp .le 6, 3) := by decide +kernel
theorem dX8_got_0 : decode cX8_got 0 = .ok (.aload_n 0, 1) := by decide +kernel
theorem dX8_got_1 : decode cX8_got 1 = .ok (.invokevirtual 181, 3) := by decide +kernel
theorem dX8_got_4 : decode cX8_got 4 = .ok (.ifCond .eq 6, 3) := by decide +kernel
theorem dX8_got_7 : decode cX8_got 7 = .ok (.ldc 184, 2) := by decide +kernel
theorem dX8_got_9 : decode cX8_got 9 = .ok (.ireturn, 1) := by decide +kernel
theorem dX8_home_0 : decode cX8_home 0 = .ok (.aload_n 0, 1) := by decide +kernel
theorem dX8_home_1 : decode cX8_home 1 = .ok (.iload_n 1, 1) := by decide +kernel
theorem dX8_home_2 : decode cX8_home 2 = .ok (.invokevirtual 191, 3) := by decide +kernel
theorem dX8_home_27 : decode cX8_home 27 = .ok (.ldc 98, 2) := by decide +kernel
theorem dX8_home_29 : decode cX8_home 29 = .ok (.ireturn, 1) := by decide +kernel
theorem dX8_home_5 : decode cX8_home 5 = .ok (.ifCond .eq 22, 3) := by decide +kernel
theorem dX8_image_0 : decode cX8_image 0 = .ok (.iload_n 1, 1) := by decide +kernel
theorem dX8_image_1 : decode cX8_image 1 = .ok (.iconst 2, 1) := by decide +kernel
theorem dX8_image_10 : decode cX8_image 10 = .ok (.ireturn, 1) := by decide +kernel
theorem dX8_image_11 : decode cX8_image 11 = .ok (.aload_n 0, 1) := by decide +kernel
theorem dX8_image_12 : decode cX8_image 12 = .ok (.invokevirtual 181, 3) := by decide +kernel
theorem dX8_image_15 : decode cX8_image 15 = .ok (.ifCond .eq 6, 3) := by decide +kernel
theorem dX8_image_18 : decode cX8_image 18 = .ok (.ldc 184, 2) := by decide +kernel
theorem dX8_image_2 : decode cX8_image 2 = .ok (.invokestatic 94, 3) := by decide +kernel
theorem dX8_image_20 : decode cX8_image 20 = .ok (.ireturn, 1) := by decide +kernel
theorem dX8_image_5 : decode cX8_image 5 = .ok (.ifCond .ne 6, 3) := by decide +kernel
theorem dX8_image_8 : decode cX8_image 8 = .ok (.ldc 98, 2) := by decide +kernel
theorem dX8_isPerson_0 : decode cX8_isPerson 0 = .ok (.iload_n 1, 1) := by decide +kernel
theorem dX8_isPerson_1 : decode cX8_isPerson 1 = .ok (.aload_n 0, 1) := by decide +kernel
theorem dX8_isPerson_11 : decode cX8_isPerson 11 = .ok (.ireturn, 1) := by decide +kernel
theorem dX8_isPerson_2 : decode cX8_isPerson 2 = .ok (.getfield 25, 3) := by decide +kernel
theorem dX8_isPerson_5 : decode cX8_isPerson 5 = .ok (.getfield 162, 3) := by decide +kernel
theorem dX8_isPerson_8 : decode cX8_isPerson 8 = .ok (.invokestatic 94, 3) := by decide +kernel
theorem dX8_kind_0 : decode cX8_kind 0 = .ok (.aload_n 0, 1) := by decide +kernel
theorem dX8_kind_1 : decode cX8_kind 1 = .ok (.getfield 25, 3) := by decide +kernel
theorem dX8_kind_22 : decode cX8_kind 22 = .ok (.ldc 98, 2) := by decide +kernel
theorem dX8_kind_24 : decode cX8_kind 24 = .ok (.ireturn, 1) := by decide +kernel
theorem dX8_kind_4 : decode cX8_kind 4 = .ok (.iload_n 1, 1) := by decide +kernel
theorem dX8_kind_5 : decode cX8_kind 5 = .ok (.invokevirtual 278, 3) := by decide +kernel
theorem dX8_kind_8 : decode cX8_kind 8 = .ok (.ifCond .eq 14, 3) := by decide +kernel
theorem dX8_look_0 : decode cX8_look 0 = .ok (.aload_n 0, 1) := by decide +kernel
theorem dX8_look_1 : decode cX8_look 1 = .ok (.getfield 25, 3) := by decide +kernel
theorem dX8_look_20 : decode cX8_look 20 = .ok (.ldc 98, 2) := by decide +kernel
theorem dX8_look_22 : decode cX8_look 22 = .ok (.ireturn, 1) := by decide +kernel
theorem dX8_look_4 : decode cX8_look 4 = .ok (.iload_n 1, 1) := by decide +kernel
theorem dX8_look_5 : decode cX8_look 5 = .ok (.invokevirtual 165, 3) := by decide +kernel
theorem dX8_look_8 : decode cX8_look 8 = .ok (.ifCond .eq 12, 3) := by decide +kernel
theorem dX8_noCity_0 : decode cX8_noCity 0 = .ok (.aload_n 0, 1) := by decide +kernel
theorem dX8_noCity_1 : decode cX8_noCity 1 = .ok (.getfield 25, 3) := by decide +kernel
theorem dX8_noCity_4 : decode cX8_noCity 4 = .ok (.invokevirtual 275, 3) := by decide +kernel
theorem dX8_noCity_7 : decode cX8_noCity 7 = .ok (.ireturn, 1) := by decide +kernel
theorem dX8_nothing_0 : decode cX8_nothing 0 = .ok (.aload_n 0, 1) := by decide +kernel
theorem dX8_nothing_1 : decode cX8_nothing 1 = .ok (.iload_n 1, 1) := by decide +kernel
theorem dX8_nothing_10 : decode cX8_nothing 10 = .ok (.ireturn, 1) := by decide +kernel
theorem dX8_nothing_2 : decode cX8_nothing 2 = .ok (.invokevirtual 191, 3) := by decide +kernel
theorem dX8_nothing_5 : decode cX8_nothing 5 = .ok (.ifCond .ne 6, 3) := by decide +kernel
theorem dX8_nothing_8 : decode cX8_nothing 8 = .ok (.ldc 98, 2) := by decide +kernel
theorem dX8_person_0 : decode cX8_person 0 = .ok (.aload_n 0, 1) := by decide +kernel
theorem dX8_person_1 : decode cX8_person 1 = .ok (.iload_n 1, 1) := by decide +kernel
theorem dX8_person_10 : decode cX8_person 10 = .ok (.ireturn, 1) := by decide +kernel
theorem dX8_person_2 : decode cX8_person 2 = .ok (.invokevirtual 191, 3) := by decide +kernel
theorem dX8_person_5 : decode cX8_person 5 = .ok (.ifCond .ne 6, 3) := by decide +kernel
theorem dX8_person_8 : decode cX8_person 8 = .ok (.ldc 98, 2) := by decide +kernel
theorem dX8_price_0 : decode cX8_price 0 = .ok (.aload_n 0, 1) := by decide +kernel
theorem dX8_price_1 : decode cX8_price 1 = .ok (.invokevirtual 181, 3) := by decide +kernel
theorem dX8_price_4 : decode cX8_price 4 = .ok (.ifCond .eq 6, 3) := by decide +kernel
theorem dX8_price_7 : decode cX8_price 7 = .ok (.ldc 184, 2) := by decide +kernel
theorem dX8_price_9 : decode cX8_price 9 = .ok (.ireturn, 1) := by decide +kernel
theorem dX8_restore_0 : decode cX8_restore 0 = .ok (.iload_n 1, 1) := by decide +kernel
theorem dX8_restore_1 : decode cX8_restore 1 = .ok (.iconst 2, 1) := by decide +kernel
theorem dX8_restore_10 : decode cX8_restore 10 = .ok (.ireturn, 1) := by decide +kernel
theorem dX8_restore_11 : decode cX8_restore 11 = .ok (.aload_n 0, 1) := by decide +kernel
theorem dX8_restore_12 : decode cX8_restore 12 = .ok (.getfield 41, 3) := by decide +kernel
theorem dX8_restore_15 : decode cX8_restore 15 = .ok (.iload_n 1, 1) := by decide +kernel
theorem dX8_restore_16 : decode cX8_restore 16 = .ok (.aaload, 1) := by decide +kernel
theorem dX8_restore_17 : decode cX8_restore 17 = .ok (.invokevirtual 275, 3) := by decide +kernel
theorem dX8_restore_2 : decode cX8_restore 2 = .ok (.invokestatic 94, 3) := by decide +kernel
theorem dX8_restore_20 : decode cX8_restore 20 = .ok (.ifCond .eq 6, 3) := by decide +kernel
theorem dX8_restore_23 : decode cX8_restore 23 = .ok (.ldc 184, 2) := by decide +kernel
theorem dX8_restore_25 : decode cX8_restore 25 = .ok (.ireturn, 1) := by decide +kernel
theorem dX8_restore_5 : decode cX8_restore 5 = .ok (.ifCond .ne 6, 3) := by decide +kernel
theorem dX8_restore_8 : decode cX8_restore 8 = .ok (.ldc 98, 2) := by decide +kernel
theorem dX8_rivals_0 : decode cX8_rivals 0 = .ok (.aload_n 0, 1) := by decide +kernel
theorem dX8_rivals_1 : decode cX8_rivals 1 = .ok (.invokevirtual 181, 3) := by decide +kernel
theorem dX8_rivals_4 : decode cX8_rivals 4 = .ok (.ifCond .eq 6, 3) := by decide +kernel
theorem dX8_rivals_7 : decode cX8_rivals 7 = .ok (.ldc 184, 2) := by decide +kernel
theorem dX8_rivals_9 : decode cX8_rivals 9 = .ok (.ireturn, 1) := by decide +kernel
theorem dX8_set_0 : decode cX8_set 0 = .ok (.iload_n 1, 1) := by decide +kernel
theorem dX8_set_1 : decode cX8_set 1 = .ok (.invokestatic 90, 3) := by decide +kernel
theorem dX8_set_10 : decode cX8_set 10 = .ok (.aload_n 0, 1) := by decide +kernel
theorem dX8_set_11 : decode cX8_set 11 = .ok (.getfield 11, 3) := by decide +kernel
theorem dX8_set_14 : decode cX8_set 14 = .ok (.iload_n 1, 1) := by decide +kernel
theorem dX8_set_15 : decode cX8_set 15 = .ok (.aaload, 1) := by decide +kernel
theorem dX8_set_16 : decode cX8_set 16 = .ok (.astore 4, 2) := by decide +kernel
theorem dX8_set_18 : decode cX8_set 18 = .ok (.aload 4, 2) := by decide +kernel
theorem dX8_set_20 : decode cX8_set 20 = .ok (.invokevirtual 110, 3) := by decide +kernel
theorem dX8_set_23 : decode cX8_set 23 = .ok (.ifCond .eq 9, 3) := by decide +kernel
theorem dX8_set_26 : decode cX8_set 26 = .ok (.aload_n 0, 1) := by decide +kernel
theorem dX8_set_27 : decode cX8_set 27 = .ok (.iconst 1, 1) := by decide +kernel
theorem dX8_set_28 : decode cX8_set 28 = .ok (.invokevirtual 99, 3) := by decide +kernel
theorem dX8_set_31 : decode cX8_set 31 = .ok (.ireturn, 1) := by decide +kernel
theorem dX8_set_4 : decode cX8_set 4 = .ok (.ifCond .ne 6, 3) := by decide +kernel
theorem dX8_set_7 : decode cX8_set 7 = .ok (.ldc 98, 2) := by decide +kernel
theorem dX8_set_9 : decode cX8_set 9 = .ok (.ireturn, 1) := by decide +kernel
theorem dX8_sheet_0 : decode cX8_sheet 0 = .ok (.iload_n 1, 1) := by decide +kernel
theorem dX8_sheet_1 : decode cX8_sheet 1 = .ok (.invokestatic 90, 3) := by decide +kernel
theorem dX8_sheet_12 : decode cX8_sheet 12 = .ok (.ifCond .eq 9, 3) := by decide +kernel
theorem dX8_sheet_15 : decode cX8_sheet 15 = .ok (.iload_n 3, 1) := by decide +kernel
theorem dX8_sheet_16 : decode cX8_sheet 16 = .ok (.bipush 40, 2) := by decide +kernel
theorem dX8_sheet_18 : decode cX8_sheet 18 = .ok (.if_icmp .le 6, 3) := by decide +kernel
theorem dX8_sheet_21 : decode cX8_sheet 21 = .ok (.ldc 98, 2) := by decide +kernel
theorem dX8_sheet_23 : decode cX8_sheet 23 = .ok (.ireturn, 1) := by decide +kernel
theorem dX8_sheet_24 : decode cX8_sheet 24 = .ok (.iload_n 3, 1) := by decide +kernel
theorem dX8_sheet_25 : decode cX8_sheet 25 = .ok (.ifCond .ge 9, 3) := by decide +kernel
theorem dX8_sheet_28 : decode cX8_sheet 28 = .ok (.aload_n 0, 1) := by decide +kernel
theorem dX8_sheet_29 : decode cX8_sheet 29 = .ok (.iconst 4, 1) := by decide +kernel
theorem dX8_sheet_30 : decode cX8_sheet 30 = .ok (.invokevirtual 99, 3) := by decide +kernel
theorem dX8_sheet_33 : decode cX8_sheet 33 = .ok (.ireturn, 1) := by decide +kernel
theorem dX8_sheet_34 : decode cX8_sheet 34 = .ok (.aload_n 0, 1) := by decide +kernel
theorem dX8_sheet_35 : decode cX8_sheet 35 = .ok (.getfield 11, 3) := by decide +kernel
theorem dX8_sheet_38 : decode cX8_sheet 38 = .ok (.iload_n 1, 1) := by decide +kernel
theorem dX8_sheet_39 : decode cX8_sheet 39 = .ok (.aaload, 1) := by decide +kernel
theorem dX8_sheet_4 : decode cX8_sheet 4 = .ok (.ifCond .eq 17, 3) := by decide +kernel
theorem dX8_sheet_40 : decode cX8_sheet 40 = .ok (.iload_n 2, 1) := by decide +kernel
theorem dX8_sheet_41 : decode cX8_sheet 41 = .ok (.iload_n 3, 1) := by decide +kernel
theorem dX8_sheet_42 : decode cX8_sheet 42 = .ok (.invokevirtual 103, 3) := by decide +kernel
theorem dX8_sheet_45 : decode cX8_sheet 45 = .ok (.aload_n 0, 1) := by decide +kernel
theorem dX8_sheet_46 : decode cX8_sheet 46 = .ok (.iload_n 3, 1) := by decide +kernel
theorem dX8_sheet_47 : decode cX8_sheet 47 = .ok (.invokevirtual 107, 3) := by decide +kernel
theorem dX8_sheet_50 : decode cX8_sheet 50 = .ok (.ireturn, 1) := by decide +kernel
theorem dX8_sheet_7 : decode cX8_sheet 7 = .ok (.iload_n 2, 1) := by decide +kernel
theorem dX8_sheet_8 : decode cX8_sheet 8 = .ok (.iconst 3, 1) := by decide +kernel
theorem dX8_sheet_9 : decode cX8_sheet 9 = .ok (.invokestatic 94, 3) := by decide +kernel
theorem dX8_status_0 : decode cX8_status 0 = .ok (.aload_n 0, 1) := by decide +kernel
theorem dX8_status_1 : decode cX8_status 1 = .ok (.getfield 86, 3) := by decide +kernel
theorem dX8_status_4 : decode cX8_status 4 = .ok (.ireturn, 1) := by decide +kernel
theorem dX8_step_0 : decode cX8_step 0 = .ok (.aload_n 0, 1) := by decide +kernel
theorem dX8_step_1 : decode cX8_step 1 = .ok (.iload_n 1, 1) := by decide +kernel
theorem dX8_step_17 : decode cX8_step 17 = .ok (.ldc 98, 2) := by decide +kernel
theorem dX8_step_19 : decode cX8_step 19 = .ok (.ireturn, 1) := by decide +kernel
theorem dX8_step_2 : decode cX8_step 2 = .ok (.invokevirtual 191, 3) := by decide +kernel
theorem dX8_step_5 : decode cX8_step 5 = .ok (.ifCond .eq 12, 3) := by decide +kernel
theorem dX8_trace_0 : decode cX8_trace 0 = .ok (.iload_n 1, 1) := by decide +kernel
theorem dX8_trace_1 : decode cX8_trace 1 = .ok (.aload_n 0, 1) := by decide +kernel
theorem dX8_trace_11 : decode cX8_trace 11 = .ok (.ifCond .eq 15, 3) := by decide +kernel
theorem dX8_trace_2 : decode cX8_trace 2 = .ok (.getfield 78, 3) := by decide +kernel
theorem dX8_trace_26 : decode cX8_trace 26 = .ok (.ldc 171, 2) := by decide +kernel
theorem dX8_trace_28 : decode cX8_trace 28 = .ok (.ireturn, 1) := by decide +kernel
theorem dX8_trace_5 : decode cX8_trace 5 = .ok (.getfield 290, 3) := by decide +kernel
theorem dX8_trace_8 : decode cX8_trace 8 = .ok (.invokestatic 94, 3) := by decide +kernel
theorem dX8_walk_0 : decode cX8_walk 0 = .ok (.aload_n 0, 1) := by decide +kernel
theorem dX8_walk_1 : decode cX8_walk 1 = .ok (.iload_n 1, 1) := by decide +kernel
theorem dX8_walk_2 : decode cX8_walk 2 = .ok (.invokevirtual 191, 3) := by decide +kernel
theorem dX8_walk_28 : decode cX8_walk 28 = .ok (.ldc 98, 2) := by decide +kernel
theorem dX8_walk_30 : decode cX8_walk 30 = .ok (.ireturn, 1) := by decide +kernel
theorem dX8_walk_5 : decode cX8_walk 5 = .ok (.ifCond .eq 23, 3) := by decide +kernel
theorem dX8_wall_0 : decode cX8_wall 0 = .ok (.aload_n 0, 1) := by decide +kernel
theorem dX8_wall_1 : decode cX8_wall 1 = .ok (.getfield 25, 3) := by decide +kernel
theorem dX8_wall_29 : decode cX8_wall 29 = .ok (.ldc 98, 2) := by decide +kernel
theorem dX8_wall_31 : decode cX8_wall 31 = .ok (.ireturn, 1) := by decide +kernel
theorem dX8_wall_4 : decode cX8_wall 4 = .ok (.iload_n 1, 1) := by decide +kernel
theorem dX8_wall_5 : decode cX8_wall 5 = .ok (.invokevirtual 165, 3) := by decide +kernel
theorem dX8_wall_8 : decode cX8_wall 8 = .ok (.ifCond .eq 21, 3) := by decide +kernel
theorem dX8_witnesses_0 : decode cX8_witnesses 0 = .ok (.aload_n 0, 1) := by decide +kernel
theorem dX8_witnesses_1 : decode cX8_witnesses 1 = .ok (.invokevirtual 181, 3) := by decide +kernel
theorem dX8_witnesses_4 : decode cX8_witnesses 4 = .ok (.ifCond .eq 6, 3) := by decide +kernel
theorem dX8_witnesses_7 : decode cX8_witnesses 7 = .ok (.ldc 184, 2) := by decide +kernel
theorem dX8_witnesses_9 : decode cX8_witnesses 9 = .ok (.ireturn, 1) := by decide +kernel
theorem jX8_as_X8 : ∀ w ∈ u_ws RX8 TX8 13, w ∈ wsX8_as := fun w h => List.mem_cons_of_mem _ (List.mem_append_left _ (List.mem_append_left _ (List.mem_append_right _ h)))
theorem jX8_ask_X8 : ∀ w ∈ u_ws RX8 TX8 13, w ∈ wsX8_ask := fun w h => List.mem_cons_of_mem _ (List.mem_append_left _ (List.mem_append_left _ (List.mem_append_right _ h)))
theorem jX8_copy_X8 : ∀ w ∈ u_ws RX8 TX8 13, w ∈ wsX8_copy := fun w h => List.mem_cons_of_mem _ (List.mem_append_left _ (List.mem_append_right _ h))
theorem jX8_drop_X8 : ∀ w ∈ u_ws RX8 TX8 13, w ∈ wsX8_drop := fun w h => List.mem_cons_of_mem _ (List.mem_append_left _ (List.mem_append_right _ h))
theorem jX8_fault_X8 : ∀ w ∈ u_ws RX8 TX8 13, w ∈ wsX8_fault := fun w h => List.mem_cons_of_mem _ (List.mem_append_right _ h)
theorem jX8_feed_X5 : ∀ w ∈ u_ws RX5 TX5 6, w ∈ wsX8_feed := fun w h => List.mem_cons_of_mem _ (List.mem_append_right _ h)
theorem jX8_feed_X8 : ∀ w ∈ u_ws RX8 TX8 13, w ∈ wsX8_feed := fun w h => List.mem_cons_of_mem _ (List.mem_append_left _ (List.mem_append_right _ h))
theorem jX8_isPerson_X1 : ∀ w ∈ u_ws RX1 TX1 12, w ∈ wsX8_isPerson := fun w h => List.mem_cons_of_mem _ (List.mem_append_right _ h)
theorem jX8_isPerson_X8 : ∀ w ∈ u_ws RX8 TX8 13, w ∈ wsX8_isPerson := fun w h => List.mem_cons_of_mem _ (List.mem_append_left _ (List.mem_append_right _ h))
theorem jX8_kind_X8 : ∀ w ∈ u_ws RX8 TX8 13, w ∈ wsX8_kind := fun w h => List.mem_cons_of_mem _ (List.mem_append_left _ (List.mem_append_left _ (List.mem_append_right _ h)))
theorem jX8_look_X8 : ∀ w ∈ u_ws RX8 TX8 13, w ∈ wsX8_look := fun w h => List.mem_cons_of_mem _ (List.mem_append_left _ (List.mem_append_left _ (List.mem_append_right _ h)))
theorem jX8_noCity_X8 : ∀ w ∈ u_ws RX8 TX8 13, w ∈ wsX8_noCity := fun w h => List.mem_cons_of_mem _ (List.mem_append_left _ (List.mem_append_right _ h))
theorem jX8_restore_X8 : ∀ w ∈ u_ws RX8 TX8 13, w ∈ wsX8_restore := fun w h => List.mem_cons_of_mem _ (List.mem_append_left _ (List.mem_append_left _ (List.mem_append_right _ h)))
theorem jX8_set_X8 : ∀ w ∈ u_ws RX8 TX8 13, w ∈ wsX8_set := fun w h => List.mem_cons_of_mem _ (List.mem_append_left _ (List.mem_append_right _ h))
theorem jX8_sheet_X8 : ∀ w ∈ u_ws RX8 TX8 13, w ∈ wsX8_sheet := fun w h => List.mem_cons_of_mem _ (List.mem_append_left _ (List.mem_append_right _ h))
theorem jX8_status_X8 : ∀ w ∈ u_ws RX8 TX8 13, w ∈ wsX8_status := fun w h => List.mem_cons_of_mem _ (List.mem_append_right _ h)
theorem jX8_trace_X0 : ∀ w ∈ u_ws RX0 TX0 3, w ∈ wsX8_trace := fun w h => List.mem_cons_of_mem _ (List.mem_append_right _ h)
theorem jX8_trace_X8 : ∀ w ∈ u_ws RX8 TX8 13, w ∈ wsX8_trace := fun w h => List.mem_cons_of_mem _ (List.mem_append_left _ (List.mem_append_right _ h))
theorem jX8_wall_X8 : ∀ w ∈ u_ws RX8 TX8 13, w ∈ wsX8_wall := fun w h => List.mem_cons_of_mem _ (List.mem_append_left _ (List.mem_append_left _ (List.mem_append_left _ (List.mem_append_left _ (List.mem_append_right _ h)))))
theorem hdS_X8_isSheet : yX8_isSheet.cls ≠ "java/lang/invoke/MethodHandle" ∧ yX8_isSheet.cls ≠ "java/lang/invoke/VarHandle" ∧ (parseMethodDescriptor yX8_isSheet.desc).map (fun d => d.parameters.length) = some 1 := by decide +kernel
theorem hdV_X1_isNone : yX1_isNone.cls = RX1 ∧ yX1_isNone.cls ≠ "java/lang/invoke/MethodHandle" ∧ yX1_isNone.cls ≠ "java/lang/invoke/VarHandle" ∧ (parseMethodDescriptor yX1_isNone.desc).map (fun d => d.parameters.length) = some 0 := by decide +kernel
theorem hdV_X1_isOpen : yX1_isOpen.cls = RX1 ∧ yX1_isOpen.cls ≠ "java/lang/invoke/MethodHandle" ∧ yX1_isOpen.cls ≠ "java/lang/invoke/VarHandle" ∧ (parseMethodDescriptor yX1_isOpen.desc).map (fun d => d.parameters.length) = some 1 := by decide +kernel
theorem hdV_X4_begin : yX4_begin.cls = RX4 ∧ yX4_begin.cls ≠ "java/lang/invoke/MethodHandle" ∧ yX4_begin.cls ≠ "java/lang/invoke/VarHandle" ∧ (parseMethodDescriptor yX4_begin.desc).map (fun d => d.parameters.length) = some 2 := by decide +kernel
theorem hdV_X4_isMissing : yX4_isMissing.cls = RX4 ∧ yX4_isMissing.cls ≠ "java/lang/invoke/MethodHandle" ∧ yX4_isMissing.cls ≠ "java/lang/invoke/VarHandle" ∧ (parseMethodDescriptor yX4_isMissing.desc).map (fun d => d.parameters.length) = some 0 := by decide +kernel
theorem hdV_X5_append : yX5_append.cls = RX5 ∧ yX5_append.cls ≠ "java/lang/invoke/MethodHandle" ∧ yX5_append.cls ≠ "java/lang/invoke/VarHandle" ∧ (parseMethodDescriptor yX5_append.desc).map (fun d => d.parameters.length) = some 2 := by decide +kernel
theorem hdV_X5_hasRoom : yX5_hasRoom.cls = RX5 ∧ yX5_hasRoom.cls ≠ "java/lang/invoke/MethodHandle" ∧ yX5_hasRoom.cls ≠ "java/lang/invoke/VarHandle" ∧ (parseMethodDescriptor yX5_hasRoom.desc).map (fun d => d.parameters.length) = some 1 := by decide +kernel
theorem hdV_X8_fine : yX8_fine.cls = RX8 ∧ yX8_fine.cls ≠ "java/lang/invoke/MethodHandle" ∧ yX8_fine.cls ≠ "java/lang/invoke/VarHandle" ∧ (parseMethodDescriptor yX8_fine.desc).map (fun d => d.parameters.length) = some 1 := by decide +kernel
theorem hdV_X8_found : yX8_found.cls = RX8 ∧ yX8_found.cls ≠ "java/lang/invoke/MethodHandle" ∧ yX8_found.cls ≠ "java/lang/invoke/VarHandle" ∧ (parseMethodDescriptor yX8_found.desc).map (fun d => d.parameters.length) = some 1 := by decide +kernel
theorem hdV_X8_isPerson : yX8_isPerson.cls = RX8 ∧ yX8_isPerson.cls ≠ "java/lang/invoke/MethodHandle" ∧ yX8_isPerson.cls ≠ "java/lang/invoke/VarHandle" ∧ (parseMethodDescriptor yX8_isPerson.desc).map (fun d => d.parameters.length) = some 1 := by decide +kernel
theorem hdV_X8_noCity : yX8_noCity.cls = RX8 ∧ yX8_noCity.cls ≠ "java/lang/invoke/MethodHandle" ∧ yX8_noCity.cls ≠ "java/lang/invoke/VarHandle" ∧ (parseMethodDescriptor yX8_noCity.desc).map (fun d => d.parameters.length) = some 0 := by decide +kernel
set_option maxHeartbeats 4000000 in
set_option maxRecDepth 100000 in
theorem c_X8_fault (l : Launch) (D : va_G) (cI cZ cC cS : ClassId) (sq sz : Nat) (x : Nat) (xs : Nat) (xt : Nat) (xc : Nat) (xd : Nat) (xr : Nat) (xi : Nat) (xv : Nat) (xw : Nat) (xh : Nat) (xm : Nat) (xa : Nat) : mI l yX8_fault wsX8_fault 0 0 D (tyW cI cZ cC cS) sq [(x, .inr (8, [.ref xs, .ref xt, .ref xc, .ref xd, .ref xr, .ref xi, .ref xv, .ref xw, .ref xh, .ref xm, .ref xa, .int 0, .int 0]))] sz [.ref x] (fun r w => r = 0 ∧ w = [(x, .inr (8, [.ref xs, .ref xt, .ref xc, .ref xd, .ref xr, .ref xi, .ref xv, .ref xw, .ref xh, .ref xm, .ref xa, .int 0, .int 0]))]) := by
  refine b_metI (cc := cX8_fault) (maxL := 1) (ret := (some .int)) (by decide) rfl (Nat.le_of_ble_eq_true rfl) ?_
  intro p e s m below meth c ls A H X hsz hP hK hD hA hS hl
  have S : CallFix p m c cX8_fault 1 s ([.ref x] : List Value).toArray wsX8_fault RX8 := X.1
  have hl : lv_has ls 1 [(0, .ref x)] := hl
  have iX8 := jX8_fault_X8
  refine lv_aload_n S.1 S.2.1 dX8_fault_0 rfl (lv_at hl 0 rfl) ?_
  refine b_get (v := .int 0) S iX8 hK hP 0 rfl rfl 11 (by decide) (by decide +kernel) rfl dX8_fault_1 ?_
  exact b_iret S.1 S.2.1 X.2.1 X.2.2.1 hP hD hS ⟨rfl, rfl⟩ dX8_fault_4
set_option maxHeartbeats 4000000 in
set_option maxRecDepth 100000 in
theorem c_X8_status (l : Launch) (D : va_G) (cI cZ cC cS : ClassId) (sq sz : Nat) (x : Nat) (xs : Nat) (xt : Nat) (xc : Nat) (xd : Nat) (xr : Nat) (xi : Nat) (xv : Nat) (xw : Nat) (xh : Nat) (xm : Nat) (xa : Nat) : mI l yX8_status wsX8_status 0 0 D (tyW cI cZ cC cS) sq [(x, .inr (8, [.ref xs, .ref xt, .ref xc, .ref xd, .ref xr, .ref xi, .ref xv, .ref xw, .ref xh, .ref xm, .ref xa, .int 0, .int 0]))] sz [.ref x] (fun r w => r = 0 ∧ w = [(x, .inr (8, [.ref xs, .ref xt, .ref xc, .ref xd, .ref xr, .ref xi, .ref xv, .ref xw, .ref xh, .ref xm, .ref xa, .int 0, .int 0]))]) := by
  refine b_metI (cc := cX8_status) (maxL := 1) (ret := (some .int)) (by decide) rfl (Nat.le_of_ble_eq_true rfl) ?_
  intro p e s m below meth c ls A H X hsz hP hK hD hA hS hl
  have S : CallFix p m c cX8_status 1 s ([.ref x] : List Value).toArray wsX8_status RX8 := X.1
  have hl : lv_has ls 1 [(0, .ref x)] := hl
  have iX8 := jX8_status_X8
  refine lv_aload_n S.1 S.2.1 dX8_status_0 rfl (lv_at hl 0 rfl) ?_
  refine b_get (v := .int 0) S iX8 hK hP 0 rfl rfl 12 (by decide) (by decide +kernel) rfl dX8_status_1 ?_
  exact b_iret S.1 S.2.1 X.2.1 X.2.2.1 hP hD hS ⟨rfl, rfl⟩ dX8_status_4
set_option maxHeartbeats 4000000 in
set_option maxRecDepth 100000 in
theorem c_X8_noCity (l : Launch) (D : va_G) (cI cZ cC cS : ClassId) (sq sz : Nat) (x : Nat) (xs : Nat) (xt : Nat) (xc : Nat) (xd : Nat) (xr : Nat) (xi : Nat) (xv : Nat) (xw : Nat) (xh : Nat) (xm : Nat) (xa : Nat) (aCells : Nat) (aPrices : Nat) (aFree : Nat) (aPlaces : Nat) (aHomes : Nat) (aManners : Nat) (aGone : Nat) (aPaid : Nat) (aBlinks : Nat) : mI l yX8_noCity wsX8_noCity 1 20 D (tyW cI cZ cC cS) sq [(x, .inr (8, [.ref xs, .ref xt, .ref xc, .ref xd, .ref xr, .ref xi, .ref xv, .ref xw, .ref xh, .ref xm, .ref xa, .int 0, .int 0])), (xc, .inr (1, [.int 0, .int 0, .int 0, .ref aCells, .ref aPrices, .ref aFree, .ref aPlaces, .ref aHomes, .ref aManners, .ref aGone, .ref aPaid, .ref aBlinks]))] sz [.ref x] (fun r w => r = 1 ∧ w = [(x, .inr (8, [.ref xs, .ref xt, .ref xc, .ref xd, .ref xr, .ref xi, .ref xv, .ref xw, .ref xh, .ref xm, .ref xa, .int 0, .int 0])), (xc, .inr (1, [.int 0, .int 0, .int 0, .ref aCells, .ref aPrices, .ref aFree, .ref aPlaces, .ref aHomes, .ref aManners, .ref aGone, .ref aPaid, .ref aBlinks]))]) := by
  refine b_metI (cc := cX8_noCity) (maxL := 1) (ret := (some .boolean)) (by decide) rfl (Nat.le_of_ble_eq_true rfl) ?_
  intro p e s m below meth c ls A H X hsz hP hK hD hA hS hl
  have S : CallFix p m c cX8_noCity 1 s ([.ref x] : List Value).toArray wsX8_noCity RX8 := X.1
  have hl : lv_has ls 1 [(0, .ref x)] := hl
  have iX8 := jX8_noCity_X8
  refine lv_aload_n S.1 S.2.1 dX8_noCity_0 rfl (lv_at hl 0 rfl) ?_
  refine b_get (v := .ref xc) S iX8 hK hP 0 rfl rfl 2 (by decide) (by decide +kernel) rfl dX8_noCity_1 ?_
  refine b_ai (wr := [(x, .inr (8, [.ref xs, .ref xt, .ref xc, .ref xd, .ref xr, .ref xi, .ref xv, .ref xw, .ref xh, .ref xm, .ref xa, .int 0, .int 0]))]) (b_runV (q0 := 1) (ci := 1) (As := []) (c_X1_isNone l D cI cZ cC cS sq H.size xc aCells aPrices aFree aPlaces aHomes aManners aGone aPaid aBlinks) S gX8_noCity_X1_isNone rfl hdV_X1_isNone ⟨Nat.le_of_ble_eq_true rfl, Nat.le_of_ble_eq_true rfl⟩ ⟨Nat.le_of_ble_eq_true rfl, Nat.le_of_ble_eq_true rfl⟩ hK hP hD rfl rfl [1] rfl (by decide) rfl hl.1 rfl (Nat.le_of_ble_eq_true rfl) dX8_noCity_4) hP hD hS hA [1] [0] rfl rfl (by decide) (by decide) (fun r_1 w_2 H locs hw_3 hP hD hS => ?_)
  obtain ⟨rfl, rfl⟩ := hw_3
  have hP : va_P D vwCl [(x, .inr (8, [.ref xs, .ref xt, .ref xc, .ref xd, .ref xr, .ref xi, .ref xv, .ref xw, .ref xh, .ref xm, .ref xa, .int 0, .int 0])), (xc, .inr (1, [.int 0, .int 0, .int 0, .ref aCells, .ref aPrices, .ref aFree, .ref aPlaces, .ref aHomes, .ref aManners, .ref aGone, .ref aPaid, .ref aBlinks]))] H := hP
  have hD : va_D A [(x, .inr (8, [.ref xs, .ref xt, .ref xc, .ref xd, .ref xr, .ref xi, .ref xv, .ref xw, .ref xh, .ref xm, .ref xa, .int 0, .int 0])), (xc, .inr (1, [.int 0, .int 0, .int 0, .ref aCells, .ref aPrices, .ref aFree, .ref aPlaces, .ref aHomes, .ref aManners, .ref aGone, .ref aPaid, .ref aBlinks]))] := hD
  exact b_zret S.1 S.2.1 X.2.1 X.2.2.1 rfl hP hD hS ⟨rfl, rfl⟩ dX8_noCity_7
set_option maxHeartbeats 4000000 in
set_option maxRecDepth 100000 in
theorem c_X8_isPerson (l : Launch) (D : va_G) (cI cZ cC cS : ClassId) (sq sz : Nat) (x : Nat) (xs : Nat) (xt : Nat) (xc : Nat) (xd : Nat) (xr : Nat) (xi : Nat) (xv : Nat) (xw : Nat) (xh : Nat) (xm : Nat) (xa : Nat) (aCells : Nat) (aPrices : Nat) (aFree : Nat) (aPlaces : Nat) (aHomes : Nat) (aManners : Nat) (aGone : Nat) (aPaid : Nat) (aBlinks : Nat) (a : Int32) : mI l yX8_isPerson wsX8_isPerson 1 21 D (tyW cI cZ cC cS) sq [(x, .inr (8, [.ref xs, .ref xt, .ref xc, .ref xd, .ref xr, .ref xi, .ref xv, .ref xw, .ref xh, .ref xm, .ref xa, .int 0, .int 0])), (xc, .inr (1, [.int 0, .int 0, .int 0, .ref aCells, .ref aPrices, .ref aFree, .ref aPlaces, .ref aHomes, .ref aManners, .ref aGone, .ref aPaid, .ref aBlinks]))] sz [.ref x, .int a] (fun r w => r = 0 ∧ w = [(x, .inr (8, [.ref xs, .ref xt, .ref xc, .ref xd, .ref xr, .ref xi, .ref xv, .ref xw, .ref xh, .ref xm, .ref xa, .int 0, .int 0])), (xc, .inr (1, [.int 0, .int 0, .int 0, .ref aCells, .ref aPrices, .ref aFree, .ref aPlaces, .ref aHomes, .ref aManners, .ref aGone, .ref aPaid, .ref aBlinks]))]) := by
  refine b_metI (cc := cX8_isPerson) (maxL := 2) (ret := (some .boolean)) (by decide) rfl (Nat.le_of_ble_eq_true rfl) ?_
  intro p e s m below meth c ls A H X hsz hP hK hD hA hS hl
  have S : CallFix p m c cX8_isPerson 2 s ([.ref x, .int a] : List Value).toArray wsX8_isPerson RX8 := X.1
  have hl : lv_has ls 2 [(0, .ref x), (1, .int a)] := hl
  have iX1 := jX8_isPerson_X1
  have iX8 := jX8_isPerson_X8
  refine lv_iload_n S.1 S.2.1 dX8_isPerson_0 rfl (lv_at hl 1 rfl) ?_
  refine lv_aload_n S.1 S.2.1 dX8_isPerson_1 rfl (lv_at hl 0 rfl) ?_
  refine b_get (v := .ref xc) S iX8 hK hP 0 rfl rfl 2 (by decide) (by decide +kernel) rfl dX8_isPerson_2 ?_
  refine b_get (v := .int 0) S iX1 hK hP 1 rfl rfl 2 (by decide) (by decide +kernel) rfl dX8_isPerson_5 ?_
  refine b_ai (wr := [(x, .inr (8, [.ref xs, .ref xt, .ref xc, .ref xd, .ref xr, .ref xi, .ref xv, .ref xw, .ref xh, .ref xm, .ref xa, .int 0, .int 0])), (xc, .inr (1, [.int 0, .int 0, .int 0, .ref aCells, .ref aPrices, .ref aFree, .ref aPlaces, .ref aHomes, .ref aManners, .ref aGone, .ref aPaid, .ref aBlinks]))]) (b_runS (As := [.int a, .int 0]) (c_X8_within_f l D cI cZ cC cS sq H.size a 0 (fun z => by rw [c_lt (N := 0) rfl] at z; rw [c_ge (N := 0) rfl]; omega)) S gX8_isPerson_X8_within rfl hdS_X8_within ⟨Nat.le_of_ble_eq_true rfl, Nat.le_of_ble_eq_true rfl⟩ ⟨Nat.le_of_ble_eq_true rfl, Nat.le_of_ble_eq_true rfl⟩ hK hP hD [] rfl (by decide) rfl hl.1 rfl (Nat.le_of_ble_eq_true rfl) dX8_isPerson_8) hP hD hS hA [] [0, 1] rfl rfl (by decide) (by decide) (fun r_1 w_2 H locs hw_3 hP hD hS => ?_)
  obtain ⟨rfl, rfl⟩ := hw_3
  have hP : va_P D vwCl [(x, .inr (8, [.ref xs, .ref xt, .ref xc, .ref xd, .ref xr, .ref xi, .ref xv, .ref xw, .ref xh, .ref xm, .ref xa, .int 0, .int 0])), (xc, .inr (1, [.int 0, .int 0, .int 0, .ref aCells, .ref aPrices, .ref aFree, .ref aPlaces, .ref aHomes, .ref aManners, .ref aGone, .ref aPaid, .ref aBlinks]))] H := hP
  have hD : va_D A [(x, .inr (8, [.ref xs, .ref xt, .ref xc, .ref xd, .ref xr, .ref xi, .ref xv, .ref xw, .ref xh, .ref xm, .ref xa, .int 0, .int 0])), (xc, .inr (1, [.int 0, .int 0, .int 0, .ref aCells, .ref aPrices, .ref aFree, .ref aPlaces, .ref aHomes, .ref aManners, .ref aGone, .ref aPaid, .ref aBlinks]))] := hD
  exact b_zret S.1 S.2.1 X.2.1 X.2.2.1 rfl hP hD hS ⟨rfl, rfl⟩ dX8_isPerson_11
set_option maxHeartbeats 4000000 in
set_option maxRecDepth 100000 in
theorem c_X8_price (l : Launch) (D : va_G) (cI cZ cC cS : ClassId) (sq sz : Nat) (x : Nat) (xs : Nat) (xt : Nat) (xc : Nat) (xd : Nat) (xr : Nat) (xi : Nat) (xv : Nat) (xw : Nat) (xh : Nat) (xm : Nat) (xa : Nat) (aCells : Nat) (aPrices : Nat) (aFree : Nat) (aPlaces : Nat) (aHomes : Nat) (aManners : Nat) (aGone : Nat) (aPaid : Nat) (aBlinks : Nat) (a : Int32) (b : Int32) : mI l yX8_price wsX8_price 2 40 D (tyW cI cZ cC cS) sq [(x, .inr (8, [.ref xs, .ref xt, .ref xc, .ref xd, .ref xr, .ref xi, .ref xv, .ref xw, .ref xh, .ref xm, .ref xa, .int 0, .int 0])), (xc, .inr (1, [.int 0, .int 0, .int 0, .ref aCells, .ref aPrices, .ref aFree, .ref aPlaces, .ref aHomes, .ref aManners, .ref aGone, .ref aPaid, .ref aBlinks]))] sz [.ref x, .int a, .int b] (fun r w => r = -1000002 ∧ w = [(x, .inr (8, [.ref xs, .ref xt, .ref xc, .ref xd, .ref xr, .ref xi, .ref xv, .ref xw, .ref xh, .ref xm, .ref xa, .int 0, .int 0])), (xc, .inr (1, [.int 0, .int 0, .int 0, .ref aCells, .ref aPrices, .ref aFree, .ref aPlaces, .ref aHomes, .ref aManners, .ref aGone, .ref aPaid, .ref aBlinks]))]) := by
  refine b_metI (cc := cX8_price) (maxL := 4) (ret := (some .int)) (by decide) rfl (Nat.le_of_ble_eq_true rfl) ?_
  intro p e s m below meth c ls A H X hsz hP hK hD hA hS hl
  have S : CallFix p m c cX8_price 4 s ([.ref x, .int a, .int b] : List Value).toArray wsX8_price RX8 := X.1
  have hl : lv_has ls 4 [(0, .ref x), (1, .int a), (2, .int b)] := hl
  refine lv_aload_n S.1 S.2.1 dX8_price_0 rfl (lv_at hl 0 rfl) ?_
  refine b_ai (wr := []) (b_runV (q0 := 0) (ci := 8) (As := []) (c_X8_noCity l D cI cZ cC cS sq H.size x xs xt xc xd xr xi xv xw xh xm xa aCells aPrices aFree aPlaces aHomes aManners aGone aPaid aBlinks) S gX8_price_X8_noCity rfl hdV_X8_noCity ⟨Nat.le_of_ble_eq_true rfl, Nat.le_of_ble_eq_true rfl⟩ ⟨Nat.le_of_ble_eq_true rfl, Nat.le_of_ble_eq_true rfl⟩ hK hP hD rfl rfl [0, 1] rfl (by decide) rfl hl.1 rfl (Nat.le_of_ble_eq_true rfl) dX8_price_1) hP hD hS hA [0, 1] [] rfl rfl (by decide) (by decide) (fun r_1 w_2 H locs hw_3 hP hD hS => ?_)
  obtain ⟨rfl, rfl⟩ := hw_3
  have hP : va_P D vwCl [(x, .inr (8, [.ref xs, .ref xt, .ref xc, .ref xd, .ref xr, .ref xi, .ref xv, .ref xw, .ref xh, .ref xm, .ref xa, .int 0, .int 0])), (xc, .inr (1, [.int 0, .int 0, .int 0, .ref aCells, .ref aPrices, .ref aFree, .ref aPlaces, .ref aHomes, .ref aManners, .ref aGone, .ref aPaid, .ref aBlinks]))] H := hP
  have hD : va_D A [(x, .inr (8, [.ref xs, .ref xt, .ref xc, .ref xd, .ref xr, .ref xi, .ref xv, .ref xw, .ref xh, .ref xm, .ref xa, .int 0, .int 0])), (xc, .inr (1, [.int 0, .int 0, .int 0, .ref aCells, .ref aPrices, .ref aFree, .ref aPlaces, .ref aHomes, .ref aManners, .ref aGone, .ref aPaid, .ref aBlinks]))] := hD
  refine lv_if_eq (tgt := 10) S.1 S.2.1 dX8_price_4 (by decide) (fun c_4 => absurd c_4 (by decide)) (fun c_4 => ?_)
  refine lv_ldc (v := (-1000002)) S.1 S.2.1 S.2.2.2.1 (S.2.2.2.2 (.constant RX8 184 (-1000002)) (by decide +kernel)) dX8_price_7 ?_
  exact b_iret S.1 S.2.1 X.2.1 X.2.2.1 hP hD hS ⟨rfl, rfl⟩ dX8_price_9
set_option maxHeartbeats 4000000 in
set_option maxRecDepth 100000 in
theorem c_X8_got (l : Launch) (D : va_G) (cI cZ cC cS : ClassId) (sq sz : Nat) (x : Nat) (xs : Nat) (xt : Nat) (xc : Nat) (xd : Nat) (xr : Nat) (xi : Nat) (xv : Nat) (xw : Nat) (xh : Nat) (xm : Nat) (xa : Nat) (aCells : Nat) (aPrices : Nat) (aFree : Nat) (aPlaces : Nat) (aHomes : Nat) (aManners : Nat) (aGone : Nat) (aPaid : Nat) (aBlinks : Nat) (a : Int32) : mI l yX8_got wsX8_got 2 40 D (tyW cI cZ cC cS) sq [(x, .inr (8, [.ref xs, .ref xt, .ref xc, .ref xd, .ref xr, .ref xi, .ref xv, .ref xw, .ref xh, .ref xm, .ref xa, .int 0, .int 0])), (xc, .inr (1, [.int 0, .int 0, .int 0, .ref aCells, .ref aPrices, .ref aFree, .ref aPlaces, .ref aHomes, .ref aManners, .ref aGone, .ref aPaid, .ref aBlinks]))] sz [.ref x, .int a] (fun r w => r = -1000002 ∧ w = [(x, .inr (8, [.ref xs, .ref xt, .ref xc, .ref xd, .ref xr, .ref xi, .ref xv, .ref xw, .ref xh, .ref xm, .ref xa, .int 0, .int 0])), (xc, .inr (1, [.int 0, .int 0, .int 0, .ref aCells, .ref aPrices, .ref aFree, .ref aPlaces, .ref aHomes, .ref aManners, .ref aGone, .ref aPaid, .ref aBlinks]))]) := by
  refine b_metI (cc := cX8_got) (maxL := 2) (ret := (some .int)) (by decide) rfl (Nat.le_of_ble_eq_true rfl) ?_
  intro p e s m below meth c ls A H X hsz hP hK hD hA hS hl
  have S : CallFix p m c cX8_got 2 s ([.ref x, .int a] : List Value).toArray wsX8_got RX8 := X.1
  have hl : lv_has ls 2 [(0, .ref x), (1, .int a)] := hl
  refine lv_aload_n S.1 S.2.1 dX8_got_0 rfl (lv_at hl 0 rfl) ?_
  refine b_ai (wr := []) (b_runV (q0 := 0) (ci := 8) (As := []) (c_X8_noCity l D cI cZ cC cS sq H.size x xs xt xc xd xr xi xv xw xh xm xa aCells aPrices aFree aPlaces aHomes aManners aGone aPaid aBlinks) S gX8_got_X8_noCity rfl hdV_X8_noCity ⟨Nat.le_of_ble_eq_true rfl, Nat.le_of_ble_eq_true rfl⟩ ⟨Nat.le_of_ble_eq_true rfl, Nat.le_of_ble_eq_true rfl⟩ hK hP hD rfl rfl [0, 1] rfl (by decide) rfl hl.1 rfl (Nat.le_of_ble_eq_true rfl) dX8_got_1) hP hD hS hA [0, 1] [] rfl rfl (by decide) (by decide) (fun r_1 w_2 H locs hw_3 hP hD hS => ?_)
  obtain ⟨rfl, rfl⟩ := hw_3
  have hP : va_P D vwCl [(x, .inr (8, [.ref xs, .ref xt, .ref xc, .ref xd, .ref xr, .ref xi, .ref xv, .ref xw, .ref xh, .ref xm, .ref xa, .int 0, .int 0])), (xc, .inr (1, [.int 0, .int 0, .int 0, .ref aCells, .ref aPrices, .ref aFree, .ref aPlaces, .ref aHomes, .ref aManners, .ref aGone, .ref aPaid, .ref aBlinks]))] H := hP
  have hD : va_D A [(x, .inr (8, [.ref xs, .ref xt, .ref xc, .ref xd, .ref xr, .ref xi, .ref xv, .ref xw, .ref xh, .ref xm, .ref xa, .int 0, .int 0])), (xc, .inr (1, [.int 0, .int 0, .int 0, .ref aCells, .ref aPrices, .ref aFree, .ref aPlaces, .ref aHomes, .ref aManners, .ref aGone, .ref aPaid, .ref aBlinks]))] := hD
  refine lv_if_eq (tgt := 10) S.1 S.2.1 dX8_got_4 (by decide) (fun c_4 => absurd c_4 (by decide)) (fun c_4 => ?_)
  refine lv_ldc (v := (-1000002)) S.1 S.2.1 S.2.2.2.1 (S.2.2.2.2 (.constant RX8 184 (-1000002)) (by decide +kernel)) dX8_got_7 ?_
  exact b_iret S.1 S.2.1 X.2.1 X.2.2.1 hP hD hS ⟨rfl, rfl⟩ dX8_got_9
set_option maxHeartbeats 4000000 in
set_option maxRecDepth 100000 in
theorem c_X8_witnesses (l : Launch) (D : va_G) (cI cZ cC cS : ClassId) (sq sz : Nat) (x : Nat) (xs : Nat) (xt : Nat) (xc : Nat) (xd : Nat) (xr : Nat) (xi : Nat) (xv : Nat) (xw : Nat) (xh : Nat) (xm : Nat) (xa : Nat) (aCells : Nat) (aPrices : Nat) (aFree : Nat) (aPlaces : Nat) (aHomes : Nat) (aManners : Nat) (aGone : Nat) (aPaid : Nat) (aBlinks : Nat) (a : Int32) : mI l yX8_witnesses wsX8_witnesses 2 40 D (tyW cI cZ cC cS) sq [(x, .inr (8, [.ref xs, .ref xt, .ref xc, .ref xd, .ref xr, .ref xi, .ref xv, .ref xw, .ref xh, .ref xm, .ref xa, .int 0, .int 0])), (xc, .inr (1, [.int 0, .int 0, .int 0, .ref aCells, .ref aPrices, .ref aFree, .ref aPlaces, .ref aHomes, .ref aManners, .ref aGone, .ref aPaid, .ref aBlinks]))] sz [.ref x, .int a] (fun r w => r = -1000002 ∧ w = [(x, .inr (8, [.ref xs, .ref xt, .ref xc, .ref xd, .ref xr, .ref xi, .ref xv, .ref xw, .ref xh, .ref xm, .ref xa, .int 0, .int 0])), (xc, .inr (1, [.int 0, .int 0, .int 0, .ref aCells, .ref aPrices, .ref aFree, .ref aPlaces, .ref aHomes, .ref aManners, .ref aGone, .ref aPaid, .ref aBlinks]))]) := by
  refine b_metI (cc := cX8_witnesses) (maxL := 2) (ret := (some .int)) (by decide) rfl (Nat.le_of_ble_eq_true rfl) ?_
  intro p e s m below meth c ls A H X hsz hP hK hD hA hS hl
  have S : CallFix p m c cX8_witnesses 2 s ([.ref x, .int a] : List Value).toArray wsX8_witnesses RX8 := X.1
  have hl : lv_has ls 2 [(0, .ref x), (1, .int a)] := hl
  refine lv_aload_n S.1 S.2.1 dX8_witnesses_0 rfl (lv_at hl 0 rfl) ?_
  refine b_ai (wr := []) (b_runV (q0 := 0) (ci := 8) (As := []) (c_X8_noCity l D cI cZ cC cS sq H.size x xs xt xc xd xr xi xv xw xh xm xa aCells aPrices aFree aPlaces aHomes aManners aGone aPaid aBlinks) S gX8_witnesses_X8_noCity rfl hdV_X8_noCity ⟨Nat.le_of_ble_eq_true rfl, Nat.le_of_ble_eq_true rfl⟩ ⟨Nat.le_of_ble_eq_true rfl, Nat.le_of_ble_eq_true rfl⟩ hK hP hD rfl rfl [0, 1] rfl (by decide) rfl hl.1 rfl (Nat.le_of_ble_eq_true rfl) dX8_witnesses_1) hP hD hS hA [0, 1] [] rfl rfl (by decide) (by decide) (fun r_1 w_2 H locs hw_3 hP hD hS => ?_)
  obtain ⟨rfl, rfl⟩ := hw_3
  have hP : va_P D vwCl [(x, .inr (8, [.ref xs, .ref xt, .ref xc, .ref xd, .ref xr, .ref xi, .ref xv, .ref xw, .ref xh, .ref xm, .ref xa, .int 0, .int 0])), (xc, .inr (1, [.int 0, .int 0, .int 0, .ref aCells, .ref aPrices, .ref aFree, .ref aPlaces, .ref aHomes, .ref aManners, .ref aGone, .ref aPaid, .ref aBlinks]))] H := hP
  have hD : va_D A [(x, .inr (8, [.ref xs, .ref xt, .ref xc, .ref xd, .ref xr, .ref xi, .ref xv, .ref xw, .ref xh, .ref xm, .ref xa, .int 0, .int 0])), (xc, .inr (1, [.int 0, .int 0, .int 0, .ref aCells, .ref aPrices, .ref aFree, .ref aPlaces, .ref aHomes, .ref aManners, .ref aGone, .ref aPaid, .ref aBlinks]))] := hD
  refine lv_if_eq (tgt := 10) S.1 S.2.1 dX8_witnesses_4 (by decide) (fun c_4 => absurd c_4 (by decide)) (fun c_4 => ?_)
  refine lv_ldc (v := (-1000002)) S.1 S.2.1 S.2.2.2.1 (S.2.2.2.2 (.constant RX8 184 (-1000002)) (by decide +kernel)) dX8_witnesses_7 ?_
  exact b_iret S.1 S.2.1 X.2.1 X.2.2.1 hP hD hS ⟨rfl, rfl⟩ dX8_witnesses_9
set_option maxHeartbeats 4000000 in
set_option maxRecDepth 100000 in
theorem c_X8_beauty (l : Launch) (D : va_G) (cI cZ cC cS : ClassId) (sq sz : Nat) (x : Nat) (xs : Nat) (xt : Nat) (xc : Nat) (xd : Nat) (xr : Nat) (xi : Nat) (xv : Nat) (xw : Nat) (xh : Nat) (xm : Nat) (xa : Nat) (aCells : Nat) (aPrices : Nat) (aFree : Nat) (aPlaces : Nat) (aHomes : Nat) (aManners : Nat) (aGone : Nat) (aPaid : Nat) (aBlinks : Nat) (a : Int32) : mI l yX8_beauty wsX8_beauty 2 40 D (tyW cI cZ cC cS) sq [(x, .inr (8, [.ref xs, .ref xt, .ref xc, .ref xd, .ref xr, .ref xi, .ref xv, .ref xw, .ref xh, .ref xm, .ref xa, .int 0, .int 0])), (xc, .inr (1, [.int 0, .int 0, .int 0, .ref aCells, .ref aPrices, .ref aFree, .ref aPlaces, .ref aHomes, .ref aManners, .ref aGone, .ref aPaid, .ref aBlinks]))] sz [.ref x, .int a] (fun r w => r = -1000002 ∧ w = [(x, .inr (8, [.ref xs, .ref xt, .ref xc, .ref xd, .ref xr, .ref xi, .ref xv, .ref xw, .ref xh, .ref xm, .ref xa, .int 0, .int 0])), (xc, .inr (1, [.int 0, .int 0, .int 0, .ref aCells, .ref aPrices, .ref aFree, .ref aPlaces, .ref aHomes, .ref aManners, .ref aGone, .ref aPaid, .ref aBlinks]))]) := by
  refine b_metI (cc := cX8_beauty) (maxL := 3) (ret := (some .int)) (by decide) rfl (Nat.le_of_ble_eq_true rfl) ?_
  intro p e s m below meth c ls A H X hsz hP hK hD hA hS hl
  have S : CallFix p m c cX8_beauty 3 s ([.ref x, .int a] : List Value).toArray wsX8_beauty RX8 := X.1
  have hl : lv_has ls 3 [(0, .ref x), (1, .int a)] := hl
  refine lv_aload_n S.1 S.2.1 dX8_beauty_0 rfl (lv_at hl 0 rfl) ?_
  refine b_ai (wr := []) (b_runV (q0 := 0) (ci := 8) (As := []) (c_X8_noCity l D cI cZ cC cS sq H.size x xs xt xc xd xr xi xv xw xh xm xa aCells aPrices aFree aPlaces aHomes aManners aGone aPaid aBlinks) S gX8_beauty_X8_noCity rfl hdV_X8_noCity ⟨Nat.le_of_ble_eq_true rfl, Nat.le_of_ble_eq_true rfl⟩ ⟨Nat.le_of_ble_eq_true rfl, Nat.le_of_ble_eq_true rfl⟩ hK hP hD rfl rfl [0, 1] rfl (by decide) rfl hl.1 rfl (Nat.le_of_ble_eq_true rfl) dX8_beauty_1) hP hD hS hA [0, 1] [] rfl rfl (by decide) (by decide) (fun r_1 w_2 H locs hw_3 hP hD hS => ?_)
  obtain ⟨rfl, rfl⟩ := hw_3
  have hP : va_P D vwCl [(x, .inr (8, [.ref xs, .ref xt, .ref xc, .ref xd, .ref xr, .ref xi, .ref xv, .ref xw, .ref xh, .ref xm, .ref xa, .int 0, .int 0])), (xc, .inr (1, [.int 0, .int 0, .int 0, .ref aCells, .ref aPrices, .ref aFree, .ref aPlaces, .ref aHomes, .ref aManners, .ref aGone, .ref aPaid, .ref aBlinks]))] H := hP
  have hD : va_D A [(x, .inr (8, [.ref xs, .ref xt, .ref xc, .ref xd, .ref xr, .ref xi, .ref xv, .ref xw, .ref xh, .ref xm, .ref xa, .int 0, .int 0])), (xc, .inr (1, [.int 0, .int 0, .int 0, .ref aCells, .ref aPrices, .ref aFree, .ref aPlaces, .ref aHomes, .ref aManners, .ref aGone, .ref aPaid, .ref aBlinks]))] := hD
  refine lv_if_eq (tgt := 10) S.1 S.2.1 dX8_beauty_4 (by decide) (fun c_4 => absurd c_4 (by decide)) (fun c_4 => ?_)
  refine lv_ldc (v := (-1000002)) S.1 S.2.1 S.2.2.2.1 (S.2.2.2.2 (.constant RX8 184 (-1000002)) (by decide +kernel)) dX8_beauty_7 ?_
  exact b_iret S.1 S.2.1 X.2.1 X.2.2.1 hP hD hS ⟨rfl, rfl⟩ dX8_beauty_9
set_option maxHeartbeats 4000000 in
set_option maxRecDepth 100000 in
theorem c_X8_earns (l : Launch) (D : va_G) (cI cZ cC cS : ClassId) (sq sz : Nat) (x : Nat) (xs : Nat) (xt : Nat) (xc : Nat) (xd : Nat) (xr : Nat) (xi : Nat) (xv : Nat) (xw : Nat) (xh : Nat) (xm : Nat) (xa : Nat) (aCells : Nat) (aPrices : Nat) (aFree : Nat) (aPlaces : Nat) (aHomes : Nat) (aManners : Nat) (aGone : Nat) (aPaid : Nat) (aBlinks : Nat) (a : Int32) (b : Int32) : mI l yX8_earns wsX8_earns 2 40 D (tyW cI cZ cC cS) sq [(x, .inr (8, [.ref xs, .ref xt, .ref xc, .ref xd, .ref xr, .ref xi, .ref xv, .ref xw, .ref xh, .ref xm, .ref xa, .int 0, .int 0])), (xc, .inr (1, [.int 0, .int 0, .int 0, .ref aCells, .ref aPrices, .ref aFree, .ref aPlaces, .ref aHomes, .ref aManners, .ref aGone, .ref aPaid, .ref aBlinks]))] sz [.ref x, .int a, .int b] (fun r w => r = -1000002 ∧ w = [(x, .inr (8, [.ref xs, .ref xt, .ref xc, .ref xd, .ref xr, .ref xi, .ref xv, .ref xw, .ref xh, .ref xm, .ref xa, .int 0, .int 0])), (xc, .inr (1, [.int 0, .int 0, .int 0, .ref aCells, .ref aPrices, .ref aFree, .ref aPlaces, .ref aHomes, .ref aManners, .ref aGone, .ref aPaid, .ref aBlinks]))]) := by
  refine b_metI (cc := cX8_earns) (maxL := 3) (ret := (some .int)) (by decide) rfl (Nat.le_of_ble_eq_true rfl) ?_
  intro p e s m below meth c ls A H X hsz hP hK hD hA hS hl
  have S : CallFix p m c cX8_earns 3 s ([.ref x, .int a, .int b] : List Value).toArray wsX8_earns RX8 := X.1
  have hl : lv_has ls 3 [(0, .ref x), (1, .int a), (2, .int b)] := hl
  refine lv_aload_n S.1 S.2.1 dX8_earns_0 rfl (lv_at hl 0 rfl) ?_
  refine b_ai (wr := []) (b_runV (q0 := 0) (ci := 8) (As := []) (c_X8_noCity l D cI cZ cC cS sq H.size x xs xt xc xd xr xi xv xw xh xm xa aCells aPrices aFree aPlaces aHomes aManners aGone aPaid aBlinks) S gX8_earns_X8_noCity rfl hdV_X8_noCity ⟨Nat.le_of_ble_eq_true rfl, Nat.le_of_ble_eq_true rfl⟩ ⟨Nat.le_of_ble_eq_true rfl, Nat.le_of_ble_eq_true rfl⟩ hK hP hD rfl rfl [0, 1] rfl (by decide) rfl hl.1 rfl (Nat.le_of_ble_eq_true rfl) dX8_earns_1) hP hD hS hA [0, 1] [] rfl rfl (by decide) (by decide) (fun r_1 w_2 H locs hw_3 hP hD hS => ?_)
  obtain ⟨rfl, rfl⟩ := hw_3
  have hP : va_P D vwCl [(x, .inr (8, [.ref xs, .ref xt, .ref xc, .ref xd, .ref xr, .ref xi, .ref xv, .ref xw, .ref xh, .ref xm, .ref xa, .int 0, .int 0])), (xc, .inr (1, [.int 0, .int 0, .int 0, .ref aCells, .ref aPrices, .ref aFree, .ref aPlaces, .ref aHomes, .ref aManners, .ref aGone, .ref aPaid, .ref aBlinks]))] H := hP
  have hD : va_D A [(x, .inr (8, [.ref xs, .ref xt, .ref xc, .ref xd, .ref xr, .ref xi, .ref xv, .ref xw, .ref xh, .ref xm, .ref xa, .int 0, .int 0])), (xc, .inr (1, [.int 0, .int 0, .int 0, .ref aCells, .ref aPrices, .ref aFree, .ref aPlaces, .ref aHomes, .ref aManners, .ref aGone, .ref aPaid, .ref aBlinks]))] := hD
  refine lv_if_eq (tgt := 10) S.1 S.2.1 dX8_earns_4 (by decide) (fun c_4 => absurd c_4 (by decide)) (fun c_4 => ?_)
  refine lv_ldc (v := (-1000002)) S.1 S.2.1 S.2.2.2.1 (S.2.2.2.2 (.constant RX8 184 (-1000002)) (by decide +kernel)) dX8_earns_7 ?_
  exact b_iret S.1 S.2.1 X.2.1 X.2.2.1 hP hD hS ⟨rfl, rfl⟩ dX8_earns_9
set_option maxHeartbeats 4000000 in
set_option maxRecDepth 100000 in
theorem c_X8_rivals (l : Launch) (D : va_G) (cI cZ cC cS : ClassId) (sq sz : Nat) (x : Nat) (xs : Nat) (xt : Nat) (xc : Nat) (xd : Nat) (xr : Nat) (xi : Nat) (xv : Nat) (xw : Nat) (xh : Nat) (xm : Nat) (xa : Nat) (aCells : Nat) (aPrices : Nat) (aFree : Nat) (aPlaces : Nat) (aHomes : Nat) (aManners : Nat) (aGone : Nat) (aPaid : Nat) (aBlinks : Nat) (a : Int32) : mI l yX8_rivals wsX8_rivals 2 40 D (tyW cI cZ cC cS) sq [(x, .inr (8, [.ref xs, .ref xt, .ref xc, .ref xd, .ref xr, .ref xi, .ref xv, .ref xw, .ref xh, .ref xm, .ref xa, .int 0, .int 0])), (xc, .inr (1, [.int 0, .int 0, .int 0, .ref aCells, .ref aPrices, .ref aFree, .ref aPlaces, .ref aHomes, .ref aManners, .ref aGone, .ref aPaid, .ref aBlinks]))] sz [.ref x, .int a] (fun r w => r = -1000002 ∧ w = [(x, .inr (8, [.ref xs, .ref xt, .ref xc, .ref xd, .ref xr, .ref xi, .ref xv, .ref xw, .ref xh, .ref xm, .ref xa, .int 0, .int 0])), (xc, .inr (1, [.int 0, .int 0, .int 0, .ref aCells, .ref aPrices, .ref aFree, .ref aPlaces, .ref aHomes, .ref aManners, .ref aGone, .ref aPaid, .ref aBlinks]))]) := by
  refine b_metI (cc := cX8_rivals) (maxL := 3) (ret := (some .int)) (by decide) rfl (Nat.le_of_ble_eq_true rfl) ?_
  intro p e s m below meth c ls A H X hsz hP hK hD hA hS hl
  have S : CallFix p m c cX8_rivals 3 s ([.ref x, .int a] : List Value).toArray wsX8_rivals RX8 := X.1
  have hl : lv_has ls 3 [(0, .ref x), (1, .int a)] := hl
  refine lv_aload_n S.1 S.2.1 dX8_rivals_0 rfl (lv_at hl 0 rfl) ?_
  refine b_ai (wr := []) (b_runV (q0 := 0) (ci := 8) (As := []) (c_X8_noCity l D cI cZ cC cS sq H.size x xs xt xc xd xr xi xv xw xh xm xa aCells aPrices aFree aPlaces aHomes aManners aGone aPaid aBlinks) S gX8_rivals_X8_noCity rfl hdV_X8_noCity ⟨Nat.le_of_ble_eq_true rfl, Nat.le_of_ble_eq_true rfl⟩ ⟨Nat.le_of_ble_eq_true rfl, Nat.le_of_ble_eq_true rfl⟩ hK hP hD rfl rfl [0, 1] rfl (by decide) rfl hl.1 rfl (Nat.le_of_ble_eq_true rfl) dX8_rivals_1) hP hD hS hA [0, 1] [] rfl rfl (by decide) (by decide) (fun r_1 w_2 H locs hw_3 hP hD hS => ?_)
  obtain ⟨rfl, rfl⟩ := hw_3
  have hP : va_P D vwCl [(x, .inr (8, [.ref xs, .ref xt, .ref xc, .ref xd, .ref xr, .ref xi, .ref xv, .ref xw, .ref xh, .ref xm, .ref xa, .int 0, .int 0])), (xc, .inr (1, [.int 0, .int 0, .int 0, .ref aCells, .ref aPrices, .ref aFree, .ref aPlaces, .ref aHomes, .ref aManners, .ref aGone, .ref aPaid, .ref aBlinks]))] H := hP
  have hD : va_D A [(x, .inr (8, [.ref xs, .ref xt, .ref xc, .ref xd, .ref xr, .ref xi, .ref xv, .ref xw, .ref xh, .ref xm, .ref xa, .int 0, .int 0])), (xc, .inr (1, [.int 0, .int 0, .int 0, .ref aCells, .ref aPrices, .ref aFree, .ref aPlaces, .ref aHomes, .ref aManners, .ref aGone, .ref aPaid, .ref aBlinks]))] := hD
  refine lv_if_eq (tgt := 10) S.1 S.2.1 dX8_rivals_4 (by decide) (fun c_4 => absurd c_4 (by decide)) (fun c_4 => ?_)
  refine lv_ldc (v := (-1000002)) S.1 S.2.1 S.2.2.2.1 (S.2.2.2.2 (.constant RX8 184 (-1000002)) (by decide +kernel)) dX8_rivals_7 ?_
  exact b_iret S.1 S.2.1 X.2.1 X.2.2.1 hP hD hS ⟨rfl, rfl⟩ dX8_rivals_9
set_option maxHeartbeats 4000000 in
set_option maxRecDepth 100000 in
theorem c_X8_step (l : Launch) (D : va_G) (cI cZ cC cS : ClassId) (sq sz : Nat) (x : Nat) (xs : Nat) (xt : Nat) (xc : Nat) (xd : Nat) (xr : Nat) (xi : Nat) (xv : Nat) (xw : Nat) (xh : Nat) (xm : Nat) (xa : Nat) (aCells : Nat) (aPrices : Nat) (aFree : Nat) (aPlaces : Nat) (aHomes : Nat) (aManners : Nat) (aGone : Nat) (aPaid : Nat) (aBlinks : Nat) (a : Int32) (b : Int32) : mI l yX8_step wsX8_step 2 42 D (tyW cI cZ cC cS) sq [(x, .inr (8, [.ref xs, .ref xt, .ref xc, .ref xd, .ref xr, .ref xi, .ref xv, .ref xw, .ref xh, .ref xm, .ref xa, .int 0, .int 0])), (xc, .inr (1, [.int 0, .int 0, .int 0, .ref aCells, .ref aPrices, .ref aFree, .ref aPlaces, .ref aHomes, .ref aManners, .ref aGone, .ref aPaid, .ref aBlinks]))] sz [.ref x, .int a, .int b] (fun r w => r = -1000001 ∧ w = [(x, .inr (8, [.ref xs, .ref xt, .ref xc, .ref xd, .ref xr, .ref xi, .ref xv, .ref xw, .ref xh, .ref xm, .ref xa, .int 0, .int 0])), (xc, .inr (1, [.int 0, .int 0, .int 0, .ref aCells, .ref aPrices, .ref aFree, .ref aPlaces, .ref aHomes, .ref aManners, .ref aGone, .ref aPaid, .ref aBlinks]))]) := by
  refine b_metI (cc := cX8_step) (maxL := 3) (ret := (some .int)) (by decide) rfl (Nat.le_of_ble_eq_true rfl) ?_
  intro p e s m below meth c ls A H X hsz hP hK hD hA hS hl
  have S : CallFix p m c cX8_step 3 s ([.ref x, .int a, .int b] : List Value).toArray wsX8_step RX8 := X.1
  have hl : lv_has ls 3 [(0, .ref x), (1, .int a), (2, .int b)] := hl
  refine lv_aload_n S.1 S.2.1 dX8_step_0 rfl (lv_at hl 0 rfl) ?_
  refine lv_iload_n S.1 S.2.1 dX8_step_1 rfl (lv_at hl 1 rfl) ?_
  refine b_ai (wr := []) (b_runV (q0 := 0) (ci := 8) (As := [.int a]) (c_X8_isPerson l D cI cZ cC cS sq H.size x xs xt xc xd xr xi xv xw xh xm xa aCells aPrices aFree aPlaces aHomes aManners aGone aPaid aBlinks a) S gX8_step_X8_isPerson rfl hdV_X8_isPerson ⟨Nat.le_of_ble_eq_true rfl, Nat.le_of_ble_eq_true rfl⟩ ⟨Nat.le_of_ble_eq_true rfl, Nat.le_of_ble_eq_true rfl⟩ hK hP hD rfl rfl [0, 1] rfl (by decide) rfl hl.1 rfl (Nat.le_of_ble_eq_true rfl) dX8_step_2) hP hD hS hA [0, 1] [] rfl rfl (by decide) (by decide) (fun r_1 w_2 H locs hw_3 hP hD hS => ?_)
  obtain ⟨rfl, rfl⟩ := hw_3
  have hP : va_P D vwCl [(x, .inr (8, [.ref xs, .ref xt, .ref xc, .ref xd, .ref xr, .ref xi, .ref xv, .ref xw, .ref xh, .ref xm, .ref xa, .int 0, .int 0])), (xc, .inr (1, [.int 0, .int 0, .int 0, .ref aCells, .ref aPrices, .ref aFree, .ref aPlaces, .ref aHomes, .ref aManners, .ref aGone, .ref aPaid, .ref aBlinks]))] H := hP
  have hD : va_D A [(x, .inr (8, [.ref xs, .ref xt, .ref xc, .ref xd, .ref xr, .ref xi, .ref xv, .ref xw, .ref xh, .ref xm, .ref xa, .int 0, .int 0])), (xc, .inr (1, [.int 0, .int 0, .int 0, .ref aCells, .ref aPrices, .ref aFree, .ref aPlaces, .ref aHomes, .ref aManners, .ref aGone, .ref aPaid, .ref aBlinks]))] := hD
  refine lv_if_eq (tgt := 17) S.1 S.2.1 dX8_step_5 (by decide) (fun c_4 => ?_) (fun c_4 => absurd c_4 (by decide))
  refine lv_ldc (v := (-1000001)) S.1 S.2.1 S.2.2.2.1 (S.2.2.2.2 (.constant RX8 98 (-1000001)) (by decide +kernel)) dX8_step_17 ?_
  exact b_iret S.1 S.2.1 X.2.1 X.2.2.1 hP hD hS ⟨rfl, rfl⟩ dX8_step_19
set_option maxHeartbeats 4000000 in
set_option maxRecDepth 100000 in
theorem c_X8_walk (l : Launch) (D : va_G) (cI cZ cC cS : ClassId) (sq sz : Nat) (x : Nat) (xs : Nat) (xt : Nat) (xc : Nat) (xd : Nat) (xr : Nat) (xi : Nat) (xv : Nat) (xw : Nat) (xh : Nat) (xm : Nat) (xa : Nat) (aCells : Nat) (aPrices : Nat) (aFree : Nat) (aPlaces : Nat) (aHomes : Nat) (aManners : Nat) (aGone : Nat) (aPaid : Nat) (aBlinks : Nat) (a : Int32) (b : Int32) (k : Int32) (n : Int32) : mI l yX8_walk wsX8_walk 2 42 D (tyW cI cZ cC cS) sq [(x, .inr (8, [.ref xs, .ref xt, .ref xc, .ref xd, .ref xr, .ref xi, .ref xv, .ref xw, .ref xh, .ref xm, .ref xa, .int 0, .int 0])), (xc, .inr (1, [.int 0, .int 0, .int 0, .ref aCells, .ref aPrices, .ref aFree, .ref aPlaces, .ref aHomes, .ref aManners, .ref aGone, .ref aPaid, .ref aBlinks]))] sz [.ref x, .int a, .int b, .int k, .int n] (fun r w => r = -1000001 ∧ w = [(x, .inr (8, [.ref xs, .ref xt, .ref xc, .ref xd, .ref xr, .ref xi, .ref xv, .ref xw, .ref xh, .ref xm, .ref xa, .int 0, .int 0])), (xc, .inr (1, [.int 0, .int 0, .int 0, .ref aCells, .ref aPrices, .ref aFree, .ref aPlaces, .ref aHomes, .ref aManners, .ref aGone, .ref aPaid, .ref aBlinks]))]) := by
  refine b_metI (cc := cX8_walk) (maxL := 8) (ret := (some .int)) (by decide) rfl (Nat.le_of_ble_eq_true rfl) ?_
  intro p e s m below meth c ls A H X hsz hP hK hD hA hS hl
  have S : CallFix p m c cX8_walk 8 s ([.ref x, .int a, .int b, .int k, .int n] : List Value).toArray wsX8_walk RX8 := X.1
  have hl : lv_has ls 8 [(0, .ref x), (1, .int a), (2, .int b), (3, .int k), (4, .int n)] := hl
  refine lv_aload_n S.1 S.2.1 dX8_walk_0 rfl (lv_at hl 0 rfl) ?_
  refine lv_iload_n S.1 S.2.1 dX8_walk_1 rfl (lv_at hl 1 rfl) ?_
  refine b_ai (wr := []) (b_runV (q0 := 0) (ci := 8) (As := [.int a]) (c_X8_isPerson l D cI cZ cC cS sq H.size x xs xt xc xd xr xi xv xw xh xm xa aCells aPrices aFree aPlaces aHomes aManners aGone aPaid aBlinks a) S gX8_walk_X8_isPerson rfl hdV_X8_isPerson ⟨Nat.le_of_ble_eq_true rfl, Nat.le_of_ble_eq_true rfl⟩ ⟨Nat.le_of_ble_eq_true rfl, Nat.le_of_ble_eq_true rfl⟩ hK hP hD rfl rfl [0, 1] rfl (by decide) rfl hl.1 rfl (Nat.le_of_ble_eq_true rfl) dX8_walk_2) hP hD hS hA [0, 1] [] rfl rfl (by decide) (by decide) (fun r_1 w_2 H locs hw_3 hP hD hS => ?_)
  obtain ⟨rfl, rfl⟩ := hw_3
  have hP : va_P D vwCl [(x, .inr (8, [.ref xs, .ref xt, .ref xc, .ref xd, .ref xr, .ref xi, .ref xv, .ref xw, .ref xh, .ref xm, .ref xa, .int 0, .int 0])), (xc, .inr (1, [.int 0, .int 0, .int 0, .ref aCells, .ref aPrices, .ref aFree, .ref aPlaces, .ref aHomes, .ref aManners, .ref aGone, .ref aPaid, .ref aBlinks]))] H := hP
  have hD : va_D A [(x, .inr (8, [.ref xs, .ref xt, .ref xc, .ref xd, .ref xr, .ref xi, .ref xv, .ref xw, .ref xh, .ref xm, .ref xa, .int 0, .int 0])), (xc, .inr (1, [.int 0, .int 0, .int 0, .ref aCells, .ref aPrices, .ref aFree, .ref aPlaces, .ref aHomes, .ref aManners, .ref aGone, .ref aPaid, .ref aBlinks]))] := hD
  refine lv_if_eq (tgt := 28) S.1 S.2.1 dX8_walk_5 (by decide) (fun c_4 => ?_) (fun c_4 => absurd c_4 (by decide))
  refine lv_ldc (v := (-1000001)) S.1 S.2.1 S.2.2.2.1 (S.2.2.2.2 (.constant RX8 98 (-1000001)) (by decide +kernel)) dX8_walk_28 ?_
  exact b_iret S.1 S.2.1 X.2.1 X.2.2.1 hP hD hS ⟨rfl, rfl⟩ dX8_walk_30
set_option maxHeartbeats 4000000 in
set_option maxRecDepth 100000 in
theorem c_X8_person (l : Launch) (D : va_G) (cI cZ cC cS : ClassId) (sq sz : Nat) (x : Nat) (xs : Nat) (xt : Nat) (xc : Nat) (xd : Nat) (xr : Nat) (xi : Nat) (xv : Nat) (xw : Nat) (xh : Nat) (xm : Nat) (xa : Nat) (aCells : Nat) (aPrices : Nat) (aFree : Nat) (aPlaces : Nat) (aHomes : Nat) (aManners : Nat) (aGone : Nat) (aPaid : Nat) (aBlinks : Nat) (a : Int32) (b : Int32) : mI l yX8_person wsX8_person 2 42 D (tyW cI cZ cC cS) sq [(x, .inr (8, [.ref xs, .ref xt, .ref xc, .ref xd, .ref xr, .ref xi, .ref xv, .ref xw, .ref xh, .ref xm, .ref xa, .int 0, .int 0])), (xc, .inr (1, [.int 0, .int 0, .int 0, .ref aCells, .ref aPrices, .ref aFree, .ref aPlaces, .ref aHomes, .ref aManners, .ref aGone, .ref aPaid, .ref aBlinks]))] sz [.ref x, .int a, .int b] (fun r w => r = -1000001 ∧ w = [(x, .inr (8, [.ref xs, .ref xt, .ref xc, .ref xd, .ref xr, .ref xi, .ref xv, .ref xw, .ref xh, .ref xm, .ref xa, .int 0, .int 0])), (xc, .inr (1, [.int 0, .int 0, .int 0, .ref aCells, .ref aPrices, .ref aFree, .ref aPlaces, .ref aHomes, .ref aManners, .ref aGone, .ref aPaid, .ref aBlinks]))]) := by
  refine b_metI (cc := cX8_person) (maxL := 3) (ret := (some .int)) (by decide) rfl (Nat.le_of_ble_eq_true rfl) ?_
  intro p e s m below meth c ls A H X hsz hP hK hD hA hS hl
  have S : CallFix p m c cX8_person 3 s ([.ref x, .int a, .int b] : List Value).toArray wsX8_person RX8 := X.1
  have hl : lv_has ls 3 [(0, .ref x), (1, .int a), (2, .int b)] := hl
  refine lv_aload_n S.1 S.2.1 dX8_person_0 rfl (lv_at hl 0 rfl) ?_
  refine lv_iload_n S.1 S.2.1 dX8_person_1 rfl (lv_at hl 1 rfl) ?_
  refine b_ai (wr := []) (b_runV (q0 := 0) (ci := 8) (As := [.int a]) (c_X8_isPerson l D cI cZ cC cS sq H.size x xs xt xc xd xr xi xv xw xh xm xa aCells aPrices aFree aPlaces aHomes aManners aGone aPaid aBlinks a) S gX8_person_X8_isPerson rfl hdV_X8_isPerson ⟨Nat.le_of_ble_eq_true rfl, Nat.le_of_ble_eq_true rfl⟩ ⟨Nat.le_of_ble_eq_true rfl, Nat.le_of_ble_eq_true rfl⟩ hK hP hD rfl rfl [0, 1] rfl (by decide) rfl hl.1 rfl (Nat.le_of_ble_eq_true rfl) dX8_person_2) hP hD hS hA [0, 1] [] rfl rfl (by decide) (by decide) (fun r_1 w_2 H locs hw_3 hP hD hS => ?_)
  obtain ⟨rfl, rfl⟩ := hw_3
  have hP : va_P D vwCl [(x, .inr (8, [.ref xs, .ref xt, .ref xc, .ref xd, .ref xr, .ref xi, .ref xv, .ref xw, .ref xh, .ref xm, .ref xa, .int 0, .int 0])), (xc, .inr (1, [.int 0, .int 0, .int 0, .ref aCells, .ref aPrices, .ref aFree, .ref aPlaces, .ref aHomes, .ref aManners, .ref aGone, .ref aPaid, .ref aBlinks]))] H := hP
  have hD : va_D A [(x, .inr (8, [.ref xs, .ref xt, .ref xc, .ref xd, .ref xr, .ref xi, .ref xv, .ref xw, .ref xh, .ref xm, .ref xa, .int 0, .int 0])), (xc, .inr (1, [.int 0, .int 0, .int 0, .ref aCells, .ref aPrices, .ref aFree, .ref aPlaces, .ref aHomes, .ref aManners, .ref aGone, .ref aPaid, .ref aBlinks]))] := hD
  refine lv_if_ne (tgt := 11) S.1 S.2.1 dX8_person_5 (by decide) (fun c_4 => absurd c_4 (by decide)) (fun c_4 => ?_)
  refine lv_ldc (v := (-1000001)) S.1 S.2.1 S.2.2.2.1 (S.2.2.2.2 (.constant RX8 98 (-1000001)) (by decide +kernel)) dX8_person_8 ?_
  exact b_iret S.1 S.2.1 X.2.1 X.2.2.1 hP hD hS ⟨rfl, rfl⟩ dX8_person_10
set_option maxHeartbeats 4000000 in
set_option maxRecDepth 100000 in
theorem c_X8_home (l : Launch) (D : va_G) (cI cZ cC cS : ClassId) (sq sz : Nat) (x : Nat) (xs : Nat) (xt : Nat) (xc : Nat) (xd : Nat) (xr : Nat) (xi : Nat) (xv : Nat) (xw : Nat) (xh : Nat) (xm : Nat) (xa : Nat) (aCells : Nat) (aPrices : Nat) (aFree : Nat) (aPlaces : Nat) (aHomes : Nat) (aManners : Nat) (aGone : Nat) (aPaid : Nat) (aBlinks : Nat) (a : Int32) (b : Int32) (k : Int32) : mI l yX8_home wsX8_home 2 42 D (tyW cI cZ cC cS) sq [(x, .inr (8, [.ref xs, .ref xt, .ref xc, .ref xd, .ref xr, .ref xi, .ref xv, .ref xw, .ref xh, .ref xm, .ref xa, .int 0, .int 0])), (xc, .inr (1, [.int 0, .int 0, .int 0, .ref aCells, .ref aPrices, .ref aFree, .ref aPlaces, .ref aHomes, .ref aManners, .ref aGone, .ref aPaid, .ref aBlinks]))] sz [.ref x, .int a, .int b, .int k] (fun r w => r = -1000001 ∧ w = [(x, .inr (8, [.ref xs, .ref xt, .ref xc, .ref xd, .ref xr, .ref xi, .ref xv, .ref xw, .ref xh, .ref xm, .ref xa, .int 0, .int 0])), (xc, .inr (1, [.int 0, .int 0, .int 0, .ref aCells, .ref aPrices, .ref aFree, .ref aPlaces, .ref aHomes, .ref aManners, .ref aGone, .ref aPaid, .ref aBlinks]))]) := by
  refine b_metI (cc := cX8_home) (maxL := 4) (ret := (some .int)) (by decide) rfl (Nat.le_of_ble_eq_true rfl) ?_
  intro p e s m below meth c ls A H X hsz hP hK hD hA hS hl
  have S : CallFix p m c cX8_home 4 s ([.ref x, .int a, .int b, .int k] : List Value).toArray wsX8_home RX8 := X.1
  have hl : lv_has ls 4 [(0, .ref x), (1, .int a), (2, .int b), (3, .int k)] := hl
  refine lv_aload_n S.1 S.2.1 dX8_home_0 rfl (lv_at hl 0 rfl) ?_
  refine lv_iload_n S.1 S.2.1 dX8_home_1 rfl (lv_at hl 1 rfl) ?_
  refine b_ai (wr := []) (b_runV (q0 := 0) (ci := 8) (As := [.int a]) (c_X8_isPerson l D cI cZ cC cS sq H.size x xs xt xc xd xr xi xv xw xh xm xa aCells aPrices aFree aPlaces aHomes aManners aGone aPaid aBlinks a) S gX8_home_X8_isPerson rfl hdV_X8_isPerson ⟨Nat.le_of_ble_eq_true rfl, Nat.le_of_ble_eq_true rfl⟩ ⟨Nat.le_of_ble_eq_true rfl, Nat.le_of_ble_eq_true rfl⟩ hK hP hD rfl rfl [0, 1] rfl (by decide) rfl hl.1 rfl (Nat.le_of_ble_eq_true rfl) dX8_home_2) hP hD hS hA [0, 1] [] rfl rfl (by decide) (by decide) (fun r_1 w_2 H locs hw_3 hP hD hS => ?_)
  obtain ⟨rfl, rfl⟩ := hw_3
  have hP : va_P D vwCl [(x, .inr (8, [.ref xs, .ref xt, .ref xc, .ref xd, .ref xr, .ref xi, .ref xv, .ref xw, .ref xh, .ref xm, .ref xa, .int 0, .int 0])), (xc, .inr (1, [.int 0, .int 0, .int 0, .ref aCells, .ref aPrices, .ref aFree, .ref aPlaces, .ref aHomes, .ref aManners, .ref aGone, .ref aPaid, .ref aBlinks]))] H := hP
  have hD : va_D A [(x, .inr (8, [.ref xs, .ref xt, .ref xc, .ref xd, .ref xr, .ref xi, .ref xv, .ref xw, .ref xh, .ref xm, .ref xa, .int 0, .int 0])), (xc, .inr (1, [.int 0, .int 0, .int 0, .ref aCells, .ref aPrices, .ref aFree, .ref aPlaces, .ref aHomes, .ref aManners, .ref aGone, .ref aPaid, .ref aBlinks]))] := hD
  refine lv_if_eq (tgt := 27) S.1 S.2.1 dX8_home_5 (by decide) (fun c_4 => ?_) (fun c_4 => absurd c_4 (by decide))
  refine lv_ldc (v := (-1000001)) S.1 S.2.1 S.2.2.2.1 (S.2.2.2.2 (.constant RX8 98 (-1000001)) (by decide +kernel)) dX8_home_27 ?_
  exact b_iret S.1 S.2.1 X.2.1 X.2.2.1 hP hD hS ⟨rfl, rfl⟩ dX8_home_29
set_option maxHeartbeats 4000000 in
set_option maxRecDepth 100000 in
theorem c_X8_nothing (l : Launch) (D : va_G) (cI cZ cC cS : ClassId) (sq sz : Nat) (x : Nat) (xs : Nat) (xt : Nat) (xc : Nat) (xd : Nat) (xr : Nat) (xi : Nat) (xv : Nat) (xw : Nat) (xh : Nat) (xm : Nat) (xa : Nat) (aCells : Nat) (aPrices : Nat) (aFree : Nat) (aPlaces : Nat) (aHomes : Nat) (aManners : Nat) (aGone : Nat) (aPaid : Nat) (aBlinks : Nat) (a : Int32) : mI l yX8_nothing wsX8_nothing 2 42 D (tyW cI cZ cC cS) sq [(x, .inr (8, [.ref xs, .ref xt, .ref xc, .ref xd, .ref xr, .ref xi, .ref xv, .ref xw, .ref xh, .ref xm, .ref xa, .int 0, .int 0])), (xc, .inr (1, [.int 0, .int 0, .int 0, .ref aCells, .ref aPrices, .ref aFree, .ref aPlaces, .ref aHomes, .ref aManners, .ref aGone, .ref aPaid, .ref aBlinks]))] sz [.ref x, .int a] (fun r w => r = -1000001 ∧ w = [(x, .inr (8, [.ref xs, .ref xt, .ref xc, .ref xd, .ref xr, .ref xi, .ref xv, .ref xw, .ref xh, .ref xm, .ref xa, .int 0, .int 0])), (xc, .inr (1, [.int 0, .int 0, .int 0, .ref aCells, .ref aPrices, .ref aFree, .ref aPlaces, .ref aHomes, .ref aManners, .ref aGone, .ref aPaid, .ref aBlinks]))]) := by
  refine b_metI (cc := cX8_nothing) (maxL := 3) (ret := (some .int)) (by decide) rfl (Nat.le_of_ble_eq_true rfl) ?_
  intro p e s m below meth c ls A H X hsz hP hK hD hA hS hl
  have S : CallFix p m c cX8_nothing 3 s ([.ref x, .int a] : List Value).toArray wsX8_nothing RX8 := X.1
  have hl : lv_has ls 3 [(0, .ref x), (1, .int a)] := hl
  refine lv_aload_n S.1 S.2.1 dX8_nothing_0 rfl (lv_at hl 0 rfl) ?_
  refine lv_iload_n S.1 S.2.1 dX8_nothing_1 rfl (lv_at hl 1 rfl) ?_
  refine b_ai (wr := []) (b_runV (q0 := 0) (ci := 8) (As := [.int a]) (c_X8_isPerson l D cI cZ cC cS sq H.size x xs xt xc xd xr xi xv xw xh xm xa aCells aPrices aFree aPlaces aHomes aManners aGone aPaid aBlinks a) S gX8_nothing_X8_isPerson rfl hdV_X8_isPerson ⟨Nat.le_of_ble_eq_true rfl, Nat.le_of_ble_eq_true rfl⟩ ⟨Nat.le_of_ble_eq_true rfl, Nat.le_of_ble_eq_true rfl⟩ hK hP hD rfl rfl [0, 1] rfl (by decide) rfl hl.1 rfl (Nat.le_of_ble_eq_true rfl) dX8_nothing_2) hP hD hS hA [0, 1] [] rfl rfl (by decide) (by decide) (fun r_1 w_2 H locs hw_3 hP hD hS => ?_)
  obtain ⟨rfl, rfl⟩ := hw_3
  have hP : va_P D vwCl [(x, .inr (8, [.ref xs, .ref xt, .ref xc, .ref xd, .ref xr, .ref xi, .ref xv, .ref xw, .ref xh, .ref xm, .ref xa, .int 0, .int 0])), (xc, .inr (1, [.int 0, .int 0, .int 0, .ref aCells, .ref aPrices, .ref aFree, .ref aPlaces, .ref aHomes, .ref aManners, .ref aGone, .ref aPaid, .ref aBlinks]))] H := hP
  have hD : va_D A [(x, .inr (8, [.ref xs, .ref xt, .ref xc, .ref xd, .ref xr, .ref xi, .ref xv, .ref xw, .ref xh, .ref xm, .ref xa, .int 0, .int 0])), (xc, .inr (1, [.int 0, .int 0, .int 0, .ref aCells, .ref aPrices, .ref aFree, .ref aPlaces, .ref aHomes, .ref aManners, .ref aGone, .ref aPaid, .ref aBlinks]))] := hD
  refine lv_if_ne (tgt := 11) S.1 S.2.1 dX8_nothing_5 (by decide) (fun c_4 => absurd c_4 (by decide)) (fun c_4 => ?_)
  refine lv_ldc (v := (-1000001)) S.1 S.2.1 S.2.2.2.1 (S.2.2.2.2 (.constant RX8 98 (-1000001)) (by decide +kernel)) dX8_nothing_8 ?_
  exact b_iret S.1 S.2.1 X.2.1 X.2.2.1 hP hD hS ⟨rfl, rfl⟩ dX8_nothing_10
set_option maxHeartbeats 4000000 in
set_option maxRecDepth 100000 in
theorem c_X8_look (l : Launch) (D : va_G) (cI cZ cC cS : ClassId) (sq sz : Nat) (x : Nat) (xs : Nat) (xt : Nat) (xc : Nat) (xd : Nat) (xr : Nat) (xi : Nat) (xv : Nat) (xw : Nat) (xh : Nat) (xm : Nat) (xa : Nat) (aCells : Nat) (aPrices : Nat) (aFree : Nat) (aPlaces : Nat) (aHomes : Nat) (aManners : Nat) (aGone : Nat) (aPaid : Nat) (aBlinks : Nat) (k : Int32) (a : Int32) (b : Int32) : mI l yX8_look wsX8_look 2 42 D (tyW cI cZ cC cS) sq [(x, .inr (8, [.ref xs, .ref xt, .ref xc, .ref xd, .ref xr, .ref xi, .ref xv, .ref xw, .ref xh, .ref xm, .ref xa, .int 0, .int 0])), (xc, .inr (1, [.int 0, .int 0, .int 0, .ref aCells, .ref aPrices, .ref aFree, .ref aPlaces, .ref aHomes, .ref aManners, .ref aGone, .ref aPaid, .ref aBlinks]))] sz [.ref x, .int k, .int a, .int b] (fun r w => r = -1000001 ∧ w = [(x, .inr (8, [.ref xs, .ref xt, .ref xc, .ref xd, .ref xr, .ref xi, .ref xv, .ref xw, .ref xh, .ref xm, .ref xa, .int 0, .int 0])), (xc, .inr (1, [.int 0, .int 0, .int 0, .ref aCells, .ref aPrices, .ref aFree, .ref aPlaces, .ref aHomes, .ref aManners, .ref aGone, .ref aPaid, .ref aBlinks]))]) := by
  refine b_metI (cc := cX8_look) (maxL := 5) (ret := (some .int)) (by decide) rfl (Nat.le_of_ble_eq_true rfl) ?_
  intro p e s m below meth c ls A H X hsz hP hK hD hA hS hl
  have S : CallFix p m c cX8_look 5 s ([.ref x, .int k, .int a, .int b] : List Value).toArray wsX8_look RX8 := X.1
  have hl : lv_has ls 5 [(0, .ref x), (1, .int k), (2, .int a), (3, .int b)] := hl
  have iX8 := jX8_look_X8
  refine lv_aload_n S.1 S.2.1 dX8_look_0 rfl (lv_at hl 0 rfl) ?_
  refine b_get (v := .ref xc) S iX8 hK hP 0 rfl rfl 2 (by decide) (by decide +kernel) rfl dX8_look_1 ?_
  refine lv_iload_n S.1 S.2.1 dX8_look_4 rfl (lv_at hl 1 rfl) ?_
  refine b_ai (wr := [(x, .inr (8, [.ref xs, .ref xt, .ref xc, .ref xd, .ref xr, .ref xi, .ref xv, .ref xw, .ref xh, .ref xm, .ref xa, .int 0, .int 0]))]) (b_runV (q0 := 1) (ci := 1) (As := [.int k]) (c_X1_isOpen l D cI cZ cC cS sq H.size xc aCells aPrices aFree aPlaces aHomes aManners aGone aPaid aBlinks k) S gX8_look_X1_isOpen rfl hdV_X1_isOpen ⟨Nat.le_of_ble_eq_true rfl, Nat.le_of_ble_eq_true rfl⟩ ⟨Nat.le_of_ble_eq_true rfl, Nat.le_of_ble_eq_true rfl⟩ hK hP hD rfl rfl [1] rfl (by decide) rfl hl.1 rfl (Nat.le_of_ble_eq_true rfl) dX8_look_5) hP hD hS hA [1] [0] rfl rfl (by decide) (by decide) (fun r_1 w_2 H locs hw_3 hP hD hS => ?_)
  obtain ⟨rfl, rfl⟩ := hw_3
  have hP : va_P D vwCl [(x, .inr (8, [.ref xs, .ref xt, .ref xc, .ref xd, .ref xr, .ref xi, .ref xv, .ref xw, .ref xh, .ref xm, .ref xa, .int 0, .int 0])), (xc, .inr (1, [.int 0, .int 0, .int 0, .ref aCells, .ref aPrices, .ref aFree, .ref aPlaces, .ref aHomes, .ref aManners, .ref aGone, .ref aPaid, .ref aBlinks]))] H := hP
  have hD : va_D A [(x, .inr (8, [.ref xs, .ref xt, .ref xc, .ref xd, .ref xr, .ref xi, .ref xv, .ref xw, .ref xh, .ref xm, .ref xa, .int 0, .int 0])), (xc, .inr (1, [.int 0, .int 0, .int 0, .ref aCells, .ref aPrices, .ref aFree, .ref aPlaces, .ref aHomes, .ref aManners, .ref aGone, .ref aPaid, .ref aBlinks]))] := hD
  refine lv_if_eq (tgt := 20) S.1 S.2.1 dX8_look_8 (by decide) (fun c_4 => ?_) (fun c_4 => absurd c_4 (by decide))
  refine lv_ldc (v := (-1000001)) S.1 S.2.1 S.2.2.2.1 (S.2.2.2.2 (.constant RX8 98 (-1000001)) (by decide +kernel)) dX8_look_20 ?_
  exact b_iret S.1 S.2.1 X.2.1 X.2.2.1 hP hD hS ⟨rfl, rfl⟩ dX8_look_22
set_option maxHeartbeats 4000000 in
set_option maxRecDepth 100000 in
theorem c_X8_wall (l : Launch) (D : va_G) (cI cZ cC cS : ClassId) (sq sz : Nat) (x : Nat) (xs : Nat) (xt : Nat) (xc : Nat) (xd : Nat) (xr : Nat) (xi : Nat) (xv : Nat) (xw : Nat) (xh : Nat) (xm : Nat) (xa : Nat) (aCells : Nat) (aPrices : Nat) (aFree : Nat) (aPlaces : Nat) (aHomes : Nat) (aManners : Nat) (aGone : Nat) (aPaid : Nat) (aBlinks : Nat) (k : Int32) (a : Int32) : mI l yX8_wall wsX8_wall 2 42 D (tyW cI cZ cC cS) sq [(x, .inr (8, [.ref xs, .ref xt, .ref xc, .ref xd, .ref xr, .ref xi, .ref xv, .ref xw, .ref xh, .ref xm, .ref xa, .int 0, .int 0])), (xc, .inr (1, [.int 0, .int 0, .int 0, .ref aCells, .ref aPrices, .ref aFree, .ref aPlaces, .ref aHomes, .ref aManners, .ref aGone, .ref aPaid, .ref aBlinks]))] sz [.ref x, .int k, .int a] (fun r w => r = -1000001 ∧ w = [(x, .inr (8, [.ref xs, .ref xt, .ref xc, .ref xd, .ref xr, .ref xi, .ref xv, .ref xw, .ref xh, .ref xm, .ref xa, .int 0, .int 0])), (xc, .inr (1, [.int 0, .int 0, .int 0, .ref aCells, .ref aPrices, .ref aFree, .ref aPlaces, .ref aHomes, .ref aManners, .ref aGone, .ref aPaid, .ref aBlinks]))]) := by
  refine b_metI (cc := cX8_wall) (maxL := 4) (ret := (some .int)) (by decide) rfl (Nat.le_of_ble_eq_true rfl) ?_
  intro p e s m below meth c ls A H X hsz hP hK hD hA hS hl
  have S : CallFix p m c cX8_wall 4 s ([.ref x, .int k, .int a] : List Value).toArray wsX8_wall RX8 := X.1
  have hl : lv_has ls 4 [(0, .ref x), (1, .int k), (2, .int a)] := hl
  have iX8 := jX8_wall_X8
  refine lv_aload_n S.1 S.2.1 dX8_wall_0 rfl (lv_at hl 0 rfl) ?_
  refine b_get (v := .ref xc) S iX8 hK hP 0 rfl rfl 2 (by decide) (by decide +kernel) rfl dX8_wall_1 ?_
  refine lv_iload_n S.1 S.2.1 dX8_wall_4 rfl (lv_at hl 1 rfl) ?_
  refine b_ai (wr := [(x, .inr (8, [.ref xs, .ref xt, .ref xc, .ref xd, .ref xr, .ref xi, .ref xv, .ref xw, .ref xh, .ref xm, .ref xa, .int 0, .int 0]))]) (b_runV (q0 := 1) (ci := 1) (As := [.int k]) (c_X1_isOpen l D cI cZ cC cS sq H.size xc aCells aPrices aFree aPlaces aHomes aManners aGone aPaid aBlinks k) S gX8_wall_X1_isOpen rfl hdV_X1_isOpen ⟨Nat.le_of_ble_eq_true rfl, Nat.le_of_ble_eq_true rfl⟩ ⟨Nat.le_of_ble_eq_true rfl, Nat.le_of_ble_eq_true rfl⟩ hK hP hD rfl rfl [1] rfl (by decide) rfl hl.1 rfl (Nat.le_of_ble_eq_true rfl) dX8_wall_5) hP hD hS hA [1] [0] rfl rfl (by decide) (by decide) (fun r_1 w_2 H locs hw_3 hP hD hS => ?_)
  obtain ⟨rfl, rfl⟩ := hw_3
  have hP : va_P D vwCl [(x, .inr (8, [.ref xs, .ref xt, .ref xc, .ref xd, .ref xr, .ref xi, .ref xv, .ref xw, .ref xh, .ref xm, .ref xa, .int 0, .int 0])), (xc, .inr (1, [.int 0, .int 0, .int 0, .ref aCells, .ref aPrices, .ref aFree, .ref aPlaces, .ref aHomes, .ref aManners, .ref aGone, .ref aPaid, .ref aBlinks]))] H := hP
  have hD : va_D A [(x, .inr (8, [.ref xs, .ref xt, .ref xc, .ref xd, .ref xr, .ref xi, .ref xv, .ref xw, .ref xh, .ref xm, .ref xa, .int 0, .int 0])), (xc, .inr (1, [.int 0, .int 0, .int 0, .ref aCells, .ref aPrices, .ref aFree, .ref aPlaces, .ref aHomes, .ref aManners, .ref aGone, .ref aPaid, .ref aBlinks]))] := hD
  refine lv_if_eq (tgt := 29) S.1 S.2.1 dX8_wall_8 (by decide) (fun c_4 => ?_) (fun c_4 => absurd c_4 (by decide))
  refine lv_ldc (v := (-1000001)) S.1 S.2.1 S.2.2.2.1 (S.2.2.2.2 (.constant RX8 98 (-1000001)) (by decide +kernel)) dX8_wall_29 ?_
  exact b_iret S.1 S.2.1 X.2.1 X.2.2.1 hP hD hS ⟨rfl, rfl⟩ dX8_wall_31
set_option maxHeartbeats 4000000 in
set_option maxRecDepth 100000 in
theorem c_X8_kind (l : Launch) (D : va_G) (cI cZ cC cS : ClassId) (sq sz : Nat) (x : Nat) (xs : Nat) (xt : Nat) (xc : Nat) (xd : Nat) (xr : Nat) (xi : Nat) (xv : Nat) (xw : Nat) (xh : Nat) (xm : Nat) (xa : Nat) (aCells : Nat) (aPrices : Nat) (aFree : Nat) (aPlaces : Nat) (aHomes : Nat) (aManners : Nat) (aGone : Nat) (aPaid : Nat) (aBlinks : Nat) (k : Int32) : mI l yX8_kind wsX8_kind 1 21 D (tyW cI cZ cC cS) sq [(x, .inr (8, [.ref xs, .ref xt, .ref xc, .ref xd, .ref xr, .ref xi, .ref xv, .ref xw, .ref xh, .ref xm, .ref xa, .int 0, .int 0])), (xc, .inr (1, [.int 0, .int 0, .int 0, .ref aCells, .ref aPrices, .ref aFree, .ref aPlaces, .ref aHomes, .ref aManners, .ref aGone, .ref aPaid, .ref aBlinks]))] sz [.ref x, .int k] (fun r w => r = -1000001 ∧ w = [(x, .inr (8, [.ref xs, .ref xt, .ref xc, .ref xd, .ref xr, .ref xi, .ref xv, .ref xw, .ref xh, .ref xm, .ref xa, .int 0, .int 0])), (xc, .inr (1, [.int 0, .int 0, .int 0, .ref aCells, .ref aPrices, .ref aFree, .ref aPlaces, .ref aHomes, .ref aManners, .ref aGone, .ref aPaid, .ref aBlinks]))]) := by
  refine b_metI (cc := cX8_kind) (maxL := 2) (ret := (some .int)) (by decide) rfl (Nat.le_of_ble_eq_true rfl) ?_
  intro p e s m below meth c ls A H X hsz hP hK hD hA hS hl
  have S : CallFix p m c cX8_kind 2 s ([.ref x, .int k] : List Value).toArray wsX8_kind RX8 := X.1
  have hl : lv_has ls 2 [(0, .ref x), (1, .int k)] := hl
  have iX8 := jX8_kind_X8
  refine lv_aload_n S.1 S.2.1 dX8_kind_0 rfl (lv_at hl 0 rfl) ?_
  refine b_get (v := .ref xc) S iX8 hK hP 0 rfl rfl 2 (by decide) (by decide +kernel) rfl dX8_kind_1 ?_
  refine lv_iload_n S.1 S.2.1 dX8_kind_4 rfl (lv_at hl 1 rfl) ?_
  refine b_ai (wr := [(x, .inr (8, [.ref xs, .ref xt, .ref xc, .ref xd, .ref xr, .ref xi, .ref xv, .ref xw, .ref xh, .ref xm, .ref xa, .int 0, .int 0]))]) (b_runV (q0 := 1) (ci := 1) (As := [.int k]) (c_X1_isCell l D cI cZ cC cS sq H.size xc aCells aPrices aFree aPlaces aHomes aManners aGone aPaid aBlinks k) S gX8_kind_X1_isCell rfl hdV_X1_isCell ⟨Nat.le_of_ble_eq_true rfl, Nat.le_of_ble_eq_true rfl⟩ ⟨Nat.le_of_ble_eq_true rfl, Nat.le_of_ble_eq_true rfl⟩ hK hP hD rfl rfl [1] rfl (by decide) rfl hl.1 rfl (Nat.le_of_ble_eq_true rfl) dX8_kind_5) hP hD hS hA [1] [0] rfl rfl (by decide) (by decide) (fun r_1 w_2 H locs hw_3 hP hD hS => ?_)
  obtain ⟨rfl, rfl⟩ := hw_3
  have hP : va_P D vwCl [(x, .inr (8, [.ref xs, .ref xt, .ref xc, .ref xd, .ref xr, .ref xi, .ref xv, .ref xw, .ref xh, .ref xm, .ref xa, .int 0, .int 0])), (xc, .inr (1, [.int 0, .int 0, .int 0, .ref aCells, .ref aPrices, .ref aFree, .ref aPlaces, .ref aHomes, .ref aManners, .ref aGone, .ref aPaid, .ref aBlinks]))] H := hP
  have hD : va_D A [(x, .inr (8, [.ref xs, .ref xt, .ref xc, .ref xd, .ref xr, .ref xi, .ref xv, .ref xw, .ref xh, .ref xm, .ref xa, .int 0, .int 0])), (xc, .inr (1, [.int 0, .int 0, .int 0, .ref aCells, .ref aPrices, .ref aFree, .ref aPlaces, .ref aHomes, .ref aManners, .ref aGone, .ref aPaid, .ref aBlinks]))] := hD
  refine lv_if_eq (tgt := 22) S.1 S.2.1 dX8_kind_8 (by decide) (fun c_4 => ?_) (fun c_4 => absurd c_4 (by decide))
  refine lv_ldc (v := (-1000001)) S.1 S.2.1 S.2.2.2.1 (S.2.2.2.2 (.constant RX8 98 (-1000001)) (by decide +kernel)) dX8_kind_22 ?_
  exact b_iret S.1 S.2.1 X.2.1 X.2.2.1 hP hD hS ⟨rfl, rfl⟩ dX8_kind_24
set_option maxHeartbeats 4000000 in
set_option maxRecDepth 100000 in
theorem c_X8_as (l : Launch) (D : va_G) (cI cZ cC cS : ClassId) (sq sz : Nat) (x : Nat) (xs : Nat) (xt : Nat) (xc : Nat) (xd : Nat) (xr : Nat) (xi : Nat) (xv : Nat) (xw : Nat) (xh : Nat) (xm : Nat) (xa : Nat) (aCells : Nat) (aPrices : Nat) (aFree : Nat) (aPlaces : Nat) (aHomes : Nat) (aManners : Nat) (aGone : Nat) (aPaid : Nat) (aBlinks : Nat) (k : Int32) (a : Int32) : mI l yX8_as wsX8_as 1 21 D (tyW cI cZ cC cS) sq [(x, .inr (8, [.ref xs, .ref xt, .ref xc, .ref xd, .ref xr, .ref xi, .ref xv, .ref xw, .ref xh, .ref xm, .ref xa, .int 0, .int 0])), (xc, .inr (1, [.int 0, .int 0, .int 0, .ref aCells, .ref aPrices, .ref aFree, .ref aPlaces, .ref aHomes, .ref aManners, .ref aGone, .ref aPaid, .ref aBlinks]))] sz [.ref x, .int k, .int a] (fun r w => r = -1000001 ∧ w = [(x, .inr (8, [.ref xs, .ref xt, .ref xc, .ref xd, .ref xr, .ref xi, .ref xv, .ref xw, .ref xh, .ref xm, .ref xa, .int 0, .int 0])), (xc, .inr (1, [.int 0, .int 0, .int 0, .ref aCells, .ref aPrices, .ref aFree, .ref aPlaces, .ref aHomes, .ref aManners, .ref aGone, .ref aPaid, .ref aBlinks]))]) := by
  refine b_metI (cc := cX8_as) (maxL := 3) (ret := (some .int)) (by decide) rfl (Nat.le_of_ble_eq_true rfl) ?_
  intro p e s m below meth c ls A H X hsz hP hK hD hA hS hl
  have S : CallFix p m c cX8_as 3 s ([.ref x, .int k, .int a] : List Value).toArray wsX8_as RX8 := X.1
  have hl : lv_has ls 3 [(0, .ref x), (1, .int k), (2, .int a)] := hl
  have iX8 := jX8_as_X8
  refine lv_aload_n S.1 S.2.1 dX8_as_0 rfl (lv_at hl 0 rfl) ?_
  refine b_get (v := .ref xc) S iX8 hK hP 0 rfl rfl 2 (by decide) (by decide +kernel) rfl dX8_as_1 ?_
  refine lv_iload_n S.1 S.2.1 dX8_as_4 rfl (lv_at hl 1 rfl) ?_
  refine b_ai (wr := [(x, .inr (8, [.ref xs, .ref xt, .ref xc, .ref xd, .ref xr, .ref xi, .ref xv, .ref xw, .ref xh, .ref xm, .ref xa, .int 0, .int 0]))]) (b_runV (q0 := 1) (ci := 1) (As := [.int k]) (c_X1_isCell l D cI cZ cC cS sq H.size xc aCells aPrices aFree aPlaces aHomes aManners aGone aPaid aBlinks k) S gX8_as_X1_isCell rfl hdV_X1_isCell ⟨Nat.le_of_ble_eq_true rfl, Nat.le_of_ble_eq_true rfl⟩ ⟨Nat.le_of_ble_eq_true rfl, Nat.le_of_ble_eq_true rfl⟩ hK hP hD rfl rfl [1] rfl (by decide) rfl hl.1 rfl (Nat.le_of_ble_eq_true rfl) dX8_as_5) hP hD hS hA [1] [0] rfl rfl (by decide) (by decide) (fun r_1 w_2 H locs hw_3 hP hD hS => ?_)
  obtain ⟨rfl, rfl⟩ := hw_3
  have hP : va_P D vwCl [(x, .inr (8, [.ref xs, .ref xt, .ref xc, .ref xd, .ref xr, .ref xi, .ref xv, .ref xw, .ref xh, .ref xm, .ref xa, .int 0, .int 0])), (xc, .inr (1, [.int 0, .int 0, .int 0, .ref aCells, .ref aPrices, .ref aFree, .ref aPlaces, .ref aHomes, .ref aManners, .ref aGone, .ref aPaid, .ref aBlinks]))] H := hP
  have hD : va_D A [(x, .inr (8, [.ref xs, .ref xt, .ref xc, .ref xd, .ref xr, .ref xi, .ref xv, .ref xw, .ref xh, .ref xm, .ref xa, .int 0, .int 0])), (xc, .inr (1, [.int 0, .int 0, .int 0, .ref aCells, .ref aPrices, .ref aFree, .ref aPlaces, .ref aHomes, .ref aManners, .ref aGone, .ref aPaid, .ref aBlinks]))] := hD
  refine lv_if_eq (tgt := 20) S.1 S.2.1 dX8_as_8 (by decide) (fun c_4 => ?_) (fun c_4 => absurd c_4 (by decide))
  refine lv_ldc (v := (-1000001)) S.1 S.2.1 S.2.2.2.1 (S.2.2.2.2 (.constant RX8 98 (-1000001)) (by decide +kernel)) dX8_as_20 ?_
  exact b_iret S.1 S.2.1 X.2.1 X.2.2.1 hP hD hS ⟨rfl, rfl⟩ dX8_as_22
set_option maxHeartbeats 4000000 in
set_option maxRecDepth 100000 in
theorem c_X8_ask (l : Launch) (D : va_G) (cI cZ cC cS : ClassId) (sq sz : Nat) (x : Nat) (xs : Nat) (xt : Nat) (xc : Nat) (xd : Nat) (xr : Nat) (xi : Nat) (xv : Nat) (xw : Nat) (xh : Nat) (xm : Nat) (xa : Nat) (aCells : Nat) (aPrices : Nat) (aFree : Nat) (aPlaces : Nat) (aHomes : Nat) (aManners : Nat) (aGone : Nat) (aPaid : Nat) (aBlinks : Nat) (k : Int32) (a : Int32) : mI l yX8_ask wsX8_ask 1 21 D (tyW cI cZ cC cS) sq [(x, .inr (8, [.ref xs, .ref xt, .ref xc, .ref xd, .ref xr, .ref xi, .ref xv, .ref xw, .ref xh, .ref xm, .ref xa, .int 0, .int 0])), (xc, .inr (1, [.int 0, .int 0, .int 0, .ref aCells, .ref aPrices, .ref aFree, .ref aPlaces, .ref aHomes, .ref aManners, .ref aGone, .ref aPaid, .ref aBlinks]))] sz [.ref x, .int k, .int a] (fun r w => r = -1000001 ∧ w = [(x, .inr (8, [.ref xs, .ref xt, .ref xc, .ref xd, .ref xr, .ref xi, .ref xv, .ref xw, .ref xh, .ref xm, .ref xa, .int 0, .int 0])), (xc, .inr (1, [.int 0, .int 0, .int 0, .ref aCells, .ref aPrices, .ref aFree, .ref aPlaces, .ref aHomes, .ref aManners, .ref aGone, .ref aPaid, .ref aBlinks]))]) := by
  refine b_metI (cc := cX8_ask) (maxL := 3) (ret := (some .int)) (by decide) rfl (Nat.le_of_ble_eq_true rfl) ?_
  intro p e s m below meth c ls A H X hsz hP hK hD hA hS hl
  have S : CallFix p m c cX8_ask 3 s ([.ref x, .int k, .int a] : List Value).toArray wsX8_ask RX8 := X.1
  have hl : lv_has ls 3 [(0, .ref x), (1, .int k), (2, .int a)] := hl
  have iX8 := jX8_ask_X8
  refine lv_aload_n S.1 S.2.1 dX8_ask_0 rfl (lv_at hl 0 rfl) ?_
  refine b_get (v := .ref xc) S iX8 hK hP 0 rfl rfl 2 (by decide) (by decide +kernel) rfl dX8_ask_1 ?_
  refine lv_iload_n S.1 S.2.1 dX8_ask_4 rfl (lv_at hl 1 rfl) ?_
  refine b_ai (wr := [(x, .inr (8, [.ref xs, .ref xt, .ref xc, .ref xd, .ref xr, .ref xi, .ref xv, .ref xw, .ref xh, .ref xm, .ref xa, .int 0, .int 0]))]) (b_runV (q0 := 1) (ci := 1) (As := [.int k]) (c_X1_isCell l D cI cZ cC cS sq H.size xc aCells aPrices aFree aPlaces aHomes aManners aGone aPaid aBlinks k) S gX8_ask_X1_isCell rfl hdV_X1_isCell ⟨Nat.le_of_ble_eq_true rfl, Nat.le_of_ble_eq_true rfl⟩ ⟨Nat.le_of_ble_eq_true rfl, Nat.le_of_ble_eq_true rfl⟩ hK hP hD rfl rfl [1] rfl (by decide) rfl hl.1 rfl (Nat.le_of_ble_eq_true rfl) dX8_ask_5) hP hD hS hA [1] [0] rfl rfl (by decide) (by decide) (fun r_1 w_2 H locs hw_3 hP hD hS => ?_)
  obtain ⟨rfl, rfl⟩ := hw_3
  have hP : va_P D vwCl [(x, .inr (8, [.ref xs, .ref xt, .ref xc, .ref xd, .ref xr, .ref xi, .ref xv, .ref xw, .ref xh, .ref xm, .ref xa, .int 0, .int 0])), (xc, .inr (1, [.int 0, .int 0, .int 0, .ref aCells, .ref aPrices, .ref aFree, .ref aPlaces, .ref aHomes, .ref aManners, .ref aGone, .ref aPaid, .ref aBlinks]))] H := hP
  have hD : va_D A [(x, .inr (8, [.ref xs, .ref xt, .ref xc, .ref xd, .ref xr, .ref xi, .ref xv, .ref xw, .ref xh, .ref xm, .ref xa, .int 0, .int 0])), (xc, .inr (1, [.int 0, .int 0, .int 0, .ref aCells, .ref aPrices, .ref aFree, .ref aPlaces, .ref aHomes, .ref aManners, .ref aGone, .ref aPaid, .ref aBlinks]))] := hD
  refine lv_if_eq (tgt := 19) S.1 S.2.1 dX8_ask_8 (by decide) (fun c_4 => ?_) (fun c_4 => absurd c_4 (by decide))
  refine lv_ldc (v := (-1000001)) S.1 S.2.1 S.2.2.2.1 (S.2.2.2.2 (.constant RX8 98 (-1000001)) (by decide +kernel)) dX8_ask_19 ?_
  exact b_iret S.1 S.2.1 X.2.1 X.2.2.1 hP hD hS ⟨rfl, rfl⟩ dX8_ask_21
set_option maxHeartbeats 4000000 in
set_option maxRecDepth 100000 in
theorem c_X8_trace (l : Launch) (D : va_G) (cI cZ cC cS : ClassId) (sq sz : Nat) (x : Nat) (xs : Nat) (xt : Nat) (xc : Nat) (xd : Nat) (xr : Nat) (xi : Nat) (xv : Nat) (xw : Nat) (xh : Nat) (xm : Nat) (xa : Nat) (bo : Nat) (tc : Nat) (a : Int32) : mI l yX8_trace wsX8_trace 1 21 D (tyW cI cZ cC cS) sq [(x, .inr (8, [.ref xs, .ref xt, .ref xc, .ref xd, .ref xr, .ref xi, .ref xv, .ref xw, .ref xh, .ref xm, .ref xa, .int 0, .int 0])), (xa, .inr (0, [.ref tc, .ref bo, .int 0]))] sz [.ref x, .int a] (fun r w => r = -1000000 ∧ w = [(x, .inr (8, [.ref xs, .ref xt, .ref xc, .ref xd, .ref xr, .ref xi, .ref xv, .ref xw, .ref xh, .ref xm, .ref xa, .int 0, .int 0])), (xa, .inr (0, [.ref tc, .ref bo, .int 0]))]) := by
  refine b_metI (cc := cX8_trace) (maxL := 2) (ret := (some .int)) (by decide) rfl (Nat.le_of_ble_eq_true rfl) ?_
  intro p e s m below meth c ls A H X hsz hP hK hD hA hS hl
  have S : CallFix p m c cX8_trace 2 s ([.ref x, .int a] : List Value).toArray wsX8_trace RX8 := X.1
  have hl : lv_has ls 2 [(0, .ref x), (1, .int a)] := hl
  have iX0 := jX8_trace_X0
  have iX8 := jX8_trace_X8
  refine lv_iload_n S.1 S.2.1 dX8_trace_0 rfl (lv_at hl 1 rfl) ?_
  refine lv_aload_n S.1 S.2.1 dX8_trace_1 rfl (lv_at hl 0 rfl) ?_
  refine b_get (v := .ref xa) S iX8 hK hP 0 rfl rfl 10 (by decide) (by decide +kernel) rfl dX8_trace_2 ?_
  refine b_get (v := .int 0) S iX0 hK hP 1 rfl rfl 2 (by decide) (by decide +kernel) rfl dX8_trace_5 ?_
  refine b_ai (wr := [(x, .inr (8, [.ref xs, .ref xt, .ref xc, .ref xd, .ref xr, .ref xi, .ref xv, .ref xw, .ref xh, .ref xm, .ref xa, .int 0, .int 0])), (xa, .inr (0, [.ref tc, .ref bo, .int 0]))]) (b_runS (As := [.int a, .int 0]) (c_X8_within_f l D cI cZ cC cS sq H.size a 0 (fun z => by rw [c_lt (N := 0) rfl] at z; rw [c_ge (N := 0) rfl]; omega)) S gX8_trace_X8_within rfl hdS_X8_within ⟨Nat.le_of_ble_eq_true rfl, Nat.le_of_ble_eq_true rfl⟩ ⟨Nat.le_of_ble_eq_true rfl, Nat.le_of_ble_eq_true rfl⟩ hK hP hD [] rfl (by decide) rfl hl.1 rfl (Nat.le_of_ble_eq_true rfl) dX8_trace_8) hP hD hS hA [] [0, 1] rfl rfl (by decide) (by decide) (fun r_1 w_2 H locs hw_3 hP hD hS => ?_)
  obtain ⟨rfl, rfl⟩ := hw_3
  have hP : va_P D vwCl [(x, .inr (8, [.ref xs, .ref xt, .ref xc, .ref xd, .ref xr, .ref xi, .ref xv, .ref xw, .ref xh, .ref xm, .ref xa, .int 0, .int 0])), (xa, .inr (0, [.ref tc, .ref bo, .int 0]))] H := hP
  have hD : va_D A [(x, .inr (8, [.ref xs, .ref xt, .ref xc, .ref xd, .ref xr, .ref xi, .ref xv, .ref xw, .ref xh, .ref xm, .ref xa, .int 0, .int 0])), (xa, .inr (0, [.ref tc, .ref bo, .int 0]))] := hD
  refine lv_if_eq (tgt := 26) S.1 S.2.1 dX8_trace_11 (by decide) (fun c_4 => ?_) (fun c_4 => absurd c_4 (by decide))
  refine lv_ldc (v := (-1000000)) S.1 S.2.1 S.2.2.2.1 (S.2.2.2.2 (.constant RX8 171 (-1000000)) (by decide +kernel)) dX8_trace_26 ?_
  exact b_iret S.1 S.2.1 X.2.1 X.2.2.1 hP hD hS ⟨rfl, rfl⟩ dX8_trace_28
set_option maxHeartbeats 4000000 in
set_option maxRecDepth 100000 in
theorem c_X8_set_bad (l : Launch) (D : va_G) (cI cZ cC cS : ClassId) (sq sz : Nat) (x : Nat) (xs : Nat) (xt : Nat) (xc : Nat) (xd : Nat) (xr : Nat) (xi : Nat) (xv : Nat) (xw : Nat) (xh : Nat) (xm : Nat) (xa : Nat) (a : Int32) (b : Int32) (v : Int32) (hr : a.toInt < 0 ∨ 7 < a.toInt) : mI l yX8_set wsX8_set 2 41 D (tyW cI cZ cC cS) sq [(x, .inr (8, [.ref xs, .ref xt, .ref xc, .ref xd, .ref xr, .ref xi, .ref xv, .ref xw, .ref xh, .ref xm, .ref xa, .int 0, .int 0]))] sz [.ref x, .int a, .int b, .int v] (fun r w => r = -1000001 ∧ w = [(x, .inr (8, [.ref xs, .ref xt, .ref xc, .ref xd, .ref xr, .ref xi, .ref xv, .ref xw, .ref xh, .ref xm, .ref xa, .int 0, .int 0]))]) := by
  refine b_metI (cc := cX8_set) (maxL := 5) (ret := (some .int)) (by decide) rfl (Nat.le_of_ble_eq_true rfl) ?_
  intro p e s m below meth c ls A H X hsz hP hK hD hA hS hl
  have S : CallFix p m c cX8_set 5 s ([.ref x, .int a, .int b, .int v] : List Value).toArray wsX8_set RX8 := X.1
  have hl : lv_has ls 5 [(0, .ref x), (1, .int a), (2, .int b), (3, .int v)] := hl
  refine lv_iload_n S.1 S.2.1 dX8_set_0 rfl (lv_at hl 1 rfl) ?_
  refine b_ai (wr := [(x, .inr (8, [.ref xs, .ref xt, .ref xc, .ref xd, .ref xr, .ref xi, .ref xv, .ref xw, .ref xh, .ref xm, .ref xa, .int 0, .int 0]))]) (b_runS (As := [.int a]) (c_X8_isSheet_f l D cI cZ cC cS sq H.size a (by assumption)) S gX8_set_X8_isSheet rfl hdS_X8_isSheet ⟨Nat.le_of_ble_eq_true rfl, Nat.le_of_ble_eq_true rfl⟩ ⟨Nat.le_of_ble_eq_true rfl, Nat.le_of_ble_eq_true rfl⟩ hK hP hD [] rfl (by decide) rfl hl.1 rfl (Nat.le_of_ble_eq_true rfl) dX8_set_1) hP hD hS hA [] [0] rfl rfl (by decide) (by decide) (fun r_1 w_2 H locs hw_3 hP hD hS => ?_)
  obtain ⟨rfl, rfl⟩ := hw_3
  have hP : va_P D vwCl [(x, .inr (8, [.ref xs, .ref xt, .ref xc, .ref xd, .ref xr, .ref xi, .ref xv, .ref xw, .ref xh, .ref xm, .ref xa, .int 0, .int 0]))] H := hP
  have hD : va_D A [(x, .inr (8, [.ref xs, .ref xt, .ref xc, .ref xd, .ref xr, .ref xi, .ref xv, .ref xw, .ref xh, .ref xm, .ref xa, .int 0, .int 0]))] := hD
  refine lv_if_ne (tgt := 10) S.1 S.2.1 dX8_set_4 (by decide) (fun c_4 => absurd c_4 (by decide)) (fun c_4 => ?_)
  refine lv_ldc (v := (-1000001)) S.1 S.2.1 S.2.2.2.1 (S.2.2.2.2 (.constant RX8 98 (-1000001)) (by decide +kernel)) dX8_set_7 ?_
  exact b_iret S.1 S.2.1 X.2.1 X.2.2.1 hP hD hS ⟨rfl, rfl⟩ dX8_set_9
set_option maxHeartbeats 4000000 in
set_option maxRecDepth 100000 in
theorem c_X8_set_ok (l : Launch) (D : va_G) (cI cZ cC cS : ClassId) (sq sz : Nat) (x : Nat) (xs : Nat) (xt : Nat) (xc : Nat) (xd : Nat) (xr : Nat) (xi : Nat) (xv : Nat) (xw : Nat) (xh : Nat) (xm : Nat) (xa : Nat) (gs : Nat → Option Nat) (sh : Nat) (it : Nat) (a : Int32) (b : Int32) (v : Int32) (hr : 0 ≤ a.toInt ∧ a.toInt ≤ 7) (hfs : gs a.toNatClampNeg = some sh) : mI l yX8_set wsX8_set 2 41 D (tyW cI cZ cC cS) sq [(x, .inr (8, [.ref xs, .ref xt, .ref xc, .ref xd, .ref xr, .ref xi, .ref xv, .ref xw, .ref xh, .ref xm, .ref xa, .int 0, .int 0])), (xs, .inl (cS, 8, .inr (.inr (.inr (.inr gs))))), (sh, .inr (4, [.int (-1), .int 0, .ref it]))] sz [.ref x, .int a, .int b, .int v] (fun r w => r = -1000011 ∧ w = [(xs, .inl (cS, 8, .inr (.inr (.inr (.inr gs))))), (sh, .inr (4, [.int (-1), .int 0, .ref it])), (x, .inr (8, [.ref xs, .ref xt, .ref xc, .ref xd, .ref xr, .ref xi, .ref xv, .ref xw, .ref xh, .ref xm, .ref xa, .int 0, .int 1]))]) := by
  refine b_metI (cc := cX8_set) (maxL := 5) (ret := (some .int)) (by decide) rfl (Nat.le_of_ble_eq_true rfl) ?_
  intro p e s m below meth c ls A H X hsz hP hK hD hA hS hl
  have S : CallFix p m c cX8_set 5 s ([.ref x, .int a, .int b, .int v] : List Value).toArray wsX8_set RX8 := X.1
  have hl : lv_has ls 5 [(0, .ref x), (1, .int a), (2, .int b), (3, .int v)] := hl
  have iX8 := jX8_set_X8
  refine lv_iload_n S.1 S.2.1 dX8_set_0 rfl (lv_at hl 1 rfl) ?_
  refine b_ai (wr := [(x, .inr (8, [.ref xs, .ref xt, .ref xc, .ref xd, .ref xr, .ref xi, .ref xv, .ref xw, .ref xh, .ref xm, .ref xa, .int 0, .int 0])), (xs, .inl (cS, 8, .inr (.inr (.inr (.inr gs))))), (sh, .inr (4, [.int (-1), .int 0, .ref it]))]) (b_runS (As := [.int a]) (c_X8_isSheet_t l D cI cZ cC cS sq H.size a (by assumption)) S gX8_set_X8_isSheet rfl hdS_X8_isSheet ⟨Nat.le_of_ble_eq_true rfl, Nat.le_of_ble_eq_true rfl⟩ ⟨Nat.le_of_ble_eq_true rfl, Nat.le_of_ble_eq_true rfl⟩ hK hP hD [] rfl (by decide) rfl hl.1 rfl (Nat.le_of_ble_eq_true rfl) dX8_set_1) hP hD hS hA [] [0, 1, 2] rfl rfl (by decide) (by decide) (fun r_1 w_2 H locs hw_3 hP hD hS => ?_)
  obtain ⟨rfl, rfl⟩ := hw_3
  have hP : va_P D vwCl [(x, .inr (8, [.ref xs, .ref xt, .ref xc, .ref xd, .ref xr, .ref xi, .ref xv, .ref xw, .ref xh, .ref xm, .ref xa, .int 0, .int 0])), (xs, .inl (cS, 8, .inr (.inr (.inr (.inr gs))))), (sh, .inr (4, [.int (-1), .int 0, .ref it]))] H := hP
  have hD : va_D A [(x, .inr (8, [.ref xs, .ref xt, .ref xc, .ref xd, .ref xr, .ref xi, .ref xv, .ref xw, .ref xh, .ref xm, .ref xa, .int 0, .int 0])), (xs, .inl (cS, 8, .inr (.inr (.inr (.inr gs))))), (sh, .inr (4, [.int (-1), .int 0, .ref it]))] := hD
  refine lv_if_ne (tgt := 10) S.1 S.2.1 dX8_set_4 (by decide) (fun c_4 => ?_) (fun c_4 => absurd c_4 (by decide))
  refine lv_aload_n S.1 S.2.1 dX8_set_10 rfl (lv_at hl 0 rfl) ?_
  refine b_get (v := .ref xs) S iX8 hK hP 0 rfl rfl 0 (by decide) (by decide +kernel) rfl dX8_set_11 ?_
  refine lv_iload_n S.1 S.2.1 dX8_set_14 rfl (lv_at hl 1 rfl) ?_
  refine b_aald S.1 S.2.1 hK.1 hP 1 3 rfl rfl (in_of (n := 8) (by omega) (by omega)) hfs dX8_set_15 ?_
  refine lv_astore (lv' := [(4, .ref sh), (0, .ref x), (1, .int a), (2, .int b), (3, .int v)]) S.1 S.2.1 dX8_set_16 hl (by decide) rfl (fun ls hl => ?_)
  refine lv_aload S.1 S.2.1 dX8_set_18 (lv_at hl 0 rfl) ?_
  refine b_ai (wr := [(x, .inr (8, [.ref xs, .ref xt, .ref xc, .ref xd, .ref xr, .ref xi, .ref xv, .ref xw, .ref xh, .ref xm, .ref xa, .int 0, .int 0])), (xs, .inl (cS, 8, .inr (.inr (.inr (.inr gs)))))]) (b_runV (q0 := 2) (ci := 4) (As := []) (c_X4_isMissing l D cI cZ cC cS sq H.size sh it) S gX8_set_X4_isMissing rfl hdV_X4_isMissing ⟨Nat.le_of_ble_eq_true rfl, Nat.le_of_ble_eq_true rfl⟩ ⟨Nat.le_of_ble_eq_true rfl, Nat.le_of_ble_eq_true rfl⟩ hK hP hD rfl rfl [2] rfl (by decide) rfl hl.1 rfl (Nat.le_of_ble_eq_true rfl) dX8_set_20) hP hD hS hA [2] [0, 1] rfl rfl (by decide) (by decide) (fun r_5 w_6 H locs hw_7 hP hD hS => ?_)
  obtain ⟨rfl, rfl⟩ := hw_7
  have hP : va_P D vwCl [(x, .inr (8, [.ref xs, .ref xt, .ref xc, .ref xd, .ref xr, .ref xi, .ref xv, .ref xw, .ref xh, .ref xm, .ref xa, .int 0, .int 0])), (xs, .inl (cS, 8, .inr (.inr (.inr (.inr gs))))), (sh, .inr (4, [.int (-1), .int 0, .ref it]))] H := hP
  have hD : va_D A [(x, .inr (8, [.ref xs, .ref xt, .ref xc, .ref xd, .ref xr, .ref xi, .ref xv, .ref xw, .ref xh, .ref xm, .ref xa, .int 0, .int 0])), (xs, .inl (cS, 8, .inr (.inr (.inr (.inr gs))))), (sh, .inr (4, [.int (-1), .int 0, .ref it]))] := hD
  refine lv_if_eq (tgt := 32) S.1 S.2.1 dX8_set_23 (by decide) (fun c_8 => absurd c_8 (by decide)) (fun c_8 => ?_)
  refine lv_aload_n S.1 S.2.1 dX8_set_26 rfl (lv_at hl 1 rfl) ?_
  refine lv_iconst (v := 1) S.1 S.2.1 dX8_set_27 (by decide) ?_
  refine b_ai (wr := [(xs, .inl (cS, 8, .inr (.inr (.inr (.inr gs))))), (sh, .inr (4, [.int (-1), .int 0, .ref it]))]) (b_runV (q0 := 0) (ci := 8) (As := [.int 1]) (c_X8_found_1 l D cI cZ cC cS sq H.size x xs xt xc xd xr xi xv xw xh xm xa) S gX8_set_X8_found rfl hdV_X8_found ⟨Nat.le_of_ble_eq_true rfl, Nat.le_of_ble_eq_true rfl⟩ ⟨Nat.le_of_ble_eq_true rfl, Nat.le_of_ble_eq_true rfl⟩ hK hP hD rfl rfl [0] rfl (by decide) rfl hl.1 rfl (Nat.le_of_ble_eq_true rfl) dX8_set_28) hP hD hS hA [0] [1, 2] rfl rfl (by decide) (by decide) (fun r_9 w_10 H locs hw_11 hP hD hS => ?_)
  obtain ⟨rfl, rfl⟩ := hw_11
  have hP : va_P D vwCl [(xs, .inl (cS, 8, .inr (.inr (.inr (.inr gs))))), (sh, .inr (4, [.int (-1), .int 0, .ref it])), (x, .inr (8, [.ref xs, .ref xt, .ref xc, .ref xd, .ref xr, .ref xi, .ref xv, .ref xw, .ref xh, .ref xm, .ref xa, .int 0, .int 1]))] H := hP
  have hD : va_D A [(xs, .inl (cS, 8, .inr (.inr (.inr (.inr gs))))), (sh, .inr (4, [.int (-1), .int 0, .ref it])), (x, .inr (8, [.ref xs, .ref xt, .ref xc, .ref xd, .ref xr, .ref xi, .ref xv, .ref xw, .ref xh, .ref xm, .ref xa, .int 0, .int 1]))] := hD
  exact b_iret S.1 S.2.1 X.2.1 X.2.2.1 hP hD hS ⟨rfl, rfl⟩ dX8_set_31
set_option maxHeartbeats 4000000 in
set_option maxRecDepth 100000 in
theorem c_X8_drop_bad (l : Launch) (D : va_G) (cI cZ cC cS : ClassId) (sq sz : Nat) (x : Nat) (xs : Nat) (xt : Nat) (xc : Nat) (xd : Nat) (xr : Nat) (xi : Nat) (xv : Nat) (xw : Nat) (xh : Nat) (xm : Nat) (xa : Nat) (a : Int32) (hr : a.toInt < 0 ∨ 7 < a.toInt) : mI l yX8_drop wsX8_drop 2 41 D (tyW cI cZ cC cS) sq [(x, .inr (8, [.ref xs, .ref xt, .ref xc, .ref xd, .ref xr, .ref xi, .ref xv, .ref xw, .ref xh, .ref xm, .ref xa, .int 0, .int 0]))] sz [.ref x, .int a] (fun r w => r = -1000001 ∧ w = [(x, .inr (8, [.ref xs, .ref xt, .ref xc, .ref xd, .ref xr, .ref xi, .ref xv, .ref xw, .ref xh, .ref xm, .ref xa, .int 0, .int 0]))]) := by
  refine b_metI (cc := cX8_drop) (maxL := 4) (ret := (some .int)) (by decide) rfl (Nat.le_of_ble_eq_true rfl) ?_
  intro p e s m below meth c ls A H X hsz hP hK hD hA hS hl
  have S : CallFix p m c cX8_drop 4 s ([.ref x, .int a] : List Value).toArray wsX8_drop RX8 := X.1
  have hl : lv_has ls 4 [(0, .ref x), (1, .int a)] := hl
  refine lv_iload_n S.1 S.2.1 dX8_drop_0 rfl (lv_at hl 1 rfl) ?_
  refine b_ai (wr := [(x, .inr (8, [.ref xs, .ref xt, .ref xc, .ref xd, .ref xr, .ref xi, .ref xv, .ref xw, .ref xh, .ref xm, .ref xa, .int 0, .int 0]))]) (b_runS (As := [.int a]) (c_X8_isSheet_f l D cI cZ cC cS sq H.size a (by assumption)) S gX8_drop_X8_isSheet rfl hdS_X8_isSheet ⟨Nat.le_of_ble_eq_true rfl, Nat.le_of_ble_eq_true rfl⟩ ⟨Nat.le_of_ble_eq_true rfl, Nat.le_of_ble_eq_true rfl⟩ hK hP hD [] rfl (by decide) rfl hl.1 rfl (Nat.le_of_ble_eq_true rfl) dX8_drop_1) hP hD hS hA [] [0] rfl rfl (by decide) (by decide) (fun r_1 w_2 H locs hw_3 hP hD hS => ?_)
  obtain ⟨rfl, rfl⟩ := hw_3
  have hP : va_P D vwCl [(x, .inr (8, [.ref xs, .ref xt, .ref xc, .ref xd, .ref xr, .ref xi, .ref xv, .ref xw, .ref xh, .ref xm, .ref xa, .int 0, .int 0]))] H := hP
  have hD : va_D A [(x, .inr (8, [.ref xs, .ref xt, .ref xc, .ref xd, .ref xr, .ref xi, .ref xv, .ref xw, .ref xh, .ref xm, .ref xa, .int 0, .int 0]))] := hD
  refine lv_if_ne (tgt := 10) S.1 S.2.1 dX8_drop_4 (by decide) (fun c_4 => absurd c_4 (by decide)) (fun c_4 => ?_)
  refine lv_ldc (v := (-1000001)) S.1 S.2.1 S.2.2.2.1 (S.2.2.2.2 (.constant RX8 98 (-1000001)) (by decide +kernel)) dX8_drop_7 ?_
  exact b_iret S.1 S.2.1 X.2.1 X.2.2.1 hP hD hS ⟨rfl, rfl⟩ dX8_drop_9
set_option maxHeartbeats 4000000 in
set_option maxRecDepth 100000 in
theorem c_X8_drop_ok (l : Launch) (D : va_G) (cI cZ cC cS : ClassId) (sq sz : Nat) (x : Nat) (xs : Nat) (xt : Nat) (xc : Nat) (xd : Nat) (xr : Nat) (xi : Nat) (xv : Nat) (xw : Nat) (xh : Nat) (xm : Nat) (xa : Nat) (gs : Nat → Option Nat) (sh : Nat) (it : Nat) (a : Int32) (hr : 0 ≤ a.toInt ∧ a.toInt ≤ 7) (hfs : gs a.toNatClampNeg = some sh) : mI l yX8_drop wsX8_drop 2 41 D (tyW cI cZ cC cS) sq [(x, .inr (8, [.ref xs, .ref xt, .ref xc, .ref xd, .ref xr, .ref xi, .ref xv, .ref xw, .ref xh, .ref xm, .ref xa, .int 0, .int 0])), (xs, .inl (cS, 8, .inr (.inr (.inr (.inr gs))))), (sh, .inr (4, [.int (-1), .int 0, .ref it]))] sz [.ref x, .int a] (fun r w => r = -1000011 ∧ w = [(xs, .inl (cS, 8, .inr (.inr (.inr (.inr gs))))), (sh, .inr (4, [.int (-1), .int 0, .ref it])), (x, .inr (8, [.ref xs, .ref xt, .ref xc, .ref xd, .ref xr, .ref xi, .ref xv, .ref xw, .ref xh, .ref xm, .ref xa, .int 0, .int 1]))]) := by
  refine b_metI (cc := cX8_drop) (maxL := 4) (ret := (some .int)) (by decide) rfl (Nat.le_of_ble_eq_true rfl) ?_
  intro p e s m below meth c ls A H X hsz hP hK hD hA hS hl
  have S : CallFix p m c cX8_drop 4 s ([.ref x, .int a] : List Value).toArray wsX8_drop RX8 := X.1
  have hl : lv_has ls 4 [(0, .ref x), (1, .int a)] := hl
  have iX8 := jX8_drop_X8
  refine lv_iload_n S.1 S.2.1 dX8_drop_0 rfl (lv_at hl 1 rfl) ?_
  refine b_ai (wr := [(x, .inr (8, [.ref xs, .ref xt, .ref xc, .ref xd, .ref xr, .ref xi, .ref xv, .ref xw, .ref xh, .ref xm, .ref xa, .int 0, .int 0])), (xs, .inl (cS, 8, .inr (.inr (.inr (.inr gs))))), (sh, .inr (4, [.int (-1), .int 0, .ref it]))]) (b_runS (As := [.int a]) (c_X8_isSheet_t l D cI cZ cC cS sq H.size a (by assumption)) S gX8_drop_X8_isSheet rfl hdS_X8_isSheet ⟨Nat.le_of_ble_eq_true rfl, Nat.le_of_ble_eq_true rfl⟩ ⟨Nat.le_of_ble_eq_true rfl, Nat.le_of_ble_eq_true rfl⟩ hK hP hD [] rfl (by decide) rfl hl.1 rfl (Nat.le_of_ble_eq_true rfl) dX8_drop_1) hP hD hS hA [] [0, 1, 2] rfl rfl (by decide) (by decide) (fun r_1 w_2 H locs hw_3 hP hD hS => ?_)
  obtain ⟨rfl, rfl⟩ := hw_3
  have hP : va_P D vwCl [(x, .inr (8, [.ref xs, .ref xt, .ref xc, .ref xd, .ref xr, .ref xi, .ref xv, .ref xw, .ref xh, .ref xm, .ref xa, .int 0, .int 0])), (xs, .inl (cS, 8, .inr (.inr (.inr (.inr gs))))), (sh, .inr (4, [.int (-1), .int 0, .ref it]))] H := hP
  have hD : va_D A [(x, .inr (8, [.ref xs, .ref xt, .ref xc, .ref xd, .ref xr, .ref xi, .ref xv, .ref xw, .ref xh, .ref xm, .ref xa, .int 0, .int 0])), (xs, .inl (cS, 8, .inr (.inr (.inr (.inr gs))))), (sh, .inr (4, [.int (-1), .int 0, .ref it]))] := hD
  refine lv_if_ne (tgt := 10) S.1 S.2.1 dX8_drop_4 (by decide) (fun c_4 => ?_) (fun c_4 => absurd c_4 (by decide))
  refine lv_aload_n S.1 S.2.1 dX8_drop_10 rfl (lv_at hl 0 rfl) ?_
  refine b_get (v := .ref xs) S iX8 hK hP 0 rfl rfl 0 (by decide) (by decide +kernel) rfl dX8_drop_11 ?_
  refine lv_iload_n S.1 S.2.1 dX8_drop_14 rfl (lv_at hl 1 rfl) ?_
  refine b_aald S.1 S.2.1 hK.1 hP 1 3 rfl rfl (in_of (n := 8) (by omega) (by omega)) hfs dX8_drop_15 ?_
  refine lv_astore_n (lv' := [(2, .ref sh), (0, .ref x), (1, .int a)]) S.1 S.2.1 dX8_drop_16 rfl hl (by decide) rfl (fun ls hl => ?_)
  refine lv_aload_n S.1 S.2.1 dX8_drop_17 rfl (lv_at hl 0 rfl) ?_
  refine b_ai (wr := [(x, .inr (8, [.ref xs, .ref xt, .ref xc, .ref xd, .ref xr, .ref xi, .ref xv, .ref xw, .ref xh, .ref xm, .ref xa, .int 0, .int 0])), (xs, .inl (cS, 8, .inr (.inr (.inr (.inr gs)))))]) (b_runV (q0 := 2) (ci := 4) (As := []) (c_X4_isMissing l D cI cZ cC cS sq H.size sh it) S gX8_drop_X4_isMissing rfl hdV_X4_isMissing ⟨Nat.le_of_ble_eq_true rfl, Nat.le_of_ble_eq_true rfl⟩ ⟨Nat.le_of_ble_eq_true rfl, Nat.le_of_ble_eq_true rfl⟩ hK hP hD rfl rfl [2] rfl (by decide) rfl hl.1 rfl (Nat.le_of_ble_eq_true rfl) dX8_drop_18) hP hD hS hA [2] [0, 1] rfl rfl (by decide) (by decide) (fun r_5 w_6 H locs hw_7 hP hD hS => ?_)
  obtain ⟨rfl, rfl⟩ := hw_7
  have hP : va_P D vwCl [(x, .inr (8, [.ref xs, .ref xt, .ref xc, .ref xd, .ref xr, .ref xi, .ref xv, .ref xw, .ref xh, .ref xm, .ref xa, .int 0, .int 0])), (xs, .inl (cS, 8, .inr (.inr (.inr (.inr gs))))), (sh, .inr (4, [.int (-1), .int 0, .ref it]))] H := hP
  have hD : va_D A [(x, .inr (8, [.ref xs, .ref xt, .ref xc, .ref xd, .ref xr, .ref xi, .ref xv, .ref xw, .ref xh, .ref xm, .ref xa, .int 0, .int 0])), (xs, .inl (cS, 8, .inr (.inr (.inr (.inr gs))))), (sh, .inr (4, [.int (-1), .int 0, .ref it]))] := hD
  refine lv_if_eq (tgt := 30) S.1 S.2.1 dX8_drop_21 (by decide) (fun c_8 => absurd c_8 (by decide)) (fun c_8 => ?_)
  refine lv_aload_n S.1 S.2.1 dX8_drop_24 rfl (lv_at hl 1 rfl) ?_
  refine lv_iconst (v := 1) S.1 S.2.1 dX8_drop_25 (by decide) ?_
  refine b_ai (wr := [(xs, .inl (cS, 8, .inr (.inr (.inr (.inr gs))))), (sh, .inr (4, [.int (-1), .int 0, .ref it]))]) (b_runV (q0 := 0) (ci := 8) (As := [.int 1]) (c_X8_found_1 l D cI cZ cC cS sq H.size x xs xt xc xd xr xi xv xw xh xm xa) S gX8_drop_X8_found rfl hdV_X8_found ⟨Nat.le_of_ble_eq_true rfl, Nat.le_of_ble_eq_true rfl⟩ ⟨Nat.le_of_ble_eq_true rfl, Nat.le_of_ble_eq_true rfl⟩ hK hP hD rfl rfl [0] rfl (by decide) rfl hl.1 rfl (Nat.le_of_ble_eq_true rfl) dX8_drop_26) hP hD hS hA [0] [1, 2] rfl rfl (by decide) (by decide) (fun r_9 w_10 H locs hw_11 hP hD hS => ?_)
  obtain ⟨rfl, rfl⟩ := hw_11
  have hP : va_P D vwCl [(xs, .inl (cS, 8, .inr (.inr (.inr (.inr gs))))), (sh, .inr (4, [.int (-1), .int 0, .ref it])), (x, .inr (8, [.ref xs, .ref xt, .ref xc, .ref xd, .ref xr, .ref xi, .ref xv, .ref xw, .ref xh, .ref xm, .ref xa, .int 0, .int 1]))] H := hP
  have hD : va_D A [(xs, .inl (cS, 8, .inr (.inr (.inr (.inr gs))))), (sh, .inr (4, [.int (-1), .int 0, .ref it])), (x, .inr (8, [.ref xs, .ref xt, .ref xc, .ref xd, .ref xr, .ref xi, .ref xv, .ref xw, .ref xh, .ref xm, .ref xa, .int 0, .int 1]))] := hD
  exact b_iret S.1 S.2.1 X.2.1 X.2.2.1 hP hD hS ⟨rfl, rfl⟩ dX8_drop_29
set_option maxHeartbeats 4000000 in
set_option maxRecDepth 100000 in
theorem c_X8_copy_a (l : Launch) (D : va_G) (cI cZ cC cS : ClassId) (sq sz : Nat) (x : Nat) (xs : Nat) (xt : Nat) (xc : Nat) (xd : Nat) (xr : Nat) (xi : Nat) (xv : Nat) (xw : Nat) (xh : Nat) (xm : Nat) (xa : Nat) (a : Int32) (i : Int32) (b : Int32) (j : Int32) (n : Int32) (hr : a.toInt < 0 ∨ 7 < a.toInt) : mI l yX8_copy wsX8_copy 2 41 D (tyW cI cZ cC cS) sq [(x, .inr (8, [.ref xs, .ref xt, .ref xc, .ref xd, .ref xr, .ref xi, .ref xv, .ref xw, .ref xh, .ref xm, .ref xa, .int 0, .int 0]))] sz [.ref x, .int a, .int i, .int b, .int j, .int n] (fun r w => r = -1000001 ∧ w = [(x, .inr (8, [.ref xs, .ref xt, .ref xc, .ref xd, .ref xr, .ref xi, .ref xv, .ref xw, .ref xh, .ref xm, .ref xa, .int 0, .int 0]))]) := by
  refine b_metI (cc := cX8_copy) (maxL := 8) (ret := (some .int)) (by decide) rfl (Nat.le_of_ble_eq_true rfl) ?_
  intro p e s m below meth c ls A H X hsz hP hK hD hA hS hl
  have S : CallFix p m c cX8_copy 8 s ([.ref x, .int a, .int i, .int b, .int j, .int n] : List Value).toArray wsX8_copy RX8 := X.1
  have hl : lv_has ls 8 [(0, .ref x), (1, .int a), (2, .int i), (3, .int b), (4, .int j), (5, .int n)] := hl
  refine lv_iload_n S.1 S.2.1 dX8_copy_0 rfl (lv_at hl 1 rfl) ?_
  refine b_ai (wr := [(x, .inr (8, [.ref xs, .ref xt, .ref xc, .ref xd, .ref xr, .ref xi, .ref xv, .ref xw, .ref xh, .ref xm, .ref xa, .int 0, .int 0]))]) (b_runS (As := [.int a]) (c_X8_isSheet_f l D cI cZ cC cS sq H.size a (by assumption)) S gX8_copy_X8_isSheet rfl hdS_X8_isSheet ⟨Nat.le_of_ble_eq_true rfl, Nat.le_of_ble_eq_true rfl⟩ ⟨Nat.le_of_ble_eq_true rfl, Nat.le_of_ble_eq_true rfl⟩ hK hP hD [] rfl (by decide) rfl hl.1 rfl (Nat.le_of_ble_eq_true rfl) dX8_copy_1) hP hD hS hA [] [0] rfl rfl (by decide) (by decide) (fun r_1 w_2 H locs hw_3 hP hD hS => ?_)
  obtain ⟨rfl, rfl⟩ := hw_3
  have hP : va_P D vwCl [(x, .inr (8, [.ref xs, .ref xt, .ref xc, .ref xd, .ref xr, .ref xi, .ref xv, .ref xw, .ref xh, .ref xm, .ref xa, .int 0, .int 0]))] H := hP
  have hD : va_D A [(x, .inr (8, [.ref xs, .ref xt, .ref xc, .ref xd, .ref xr, .ref xi, .ref xv, .ref xw, .ref xh, .ref xm, .ref xa, .int 0, .int 0]))] := hD
  refine lv_if_eq (tgt := 14) S.1 S.2.1 dX8_copy_4 (by decide) (fun c_4 => ?_) (fun c_4 => absurd c_4 (by decide))
  refine lv_ldc (v := (-1000001)) S.1 S.2.1 S.2.2.2.1 (S.2.2.2.2 (.constant RX8 98 (-1000001)) (by decide +kernel)) dX8_copy_14 ?_
  exact b_iret S.1 S.2.1 X.2.1 X.2.2.1 hP hD hS ⟨rfl, rfl⟩ dX8_copy_16
set_option maxHeartbeats 4000000 in
set_option maxRecDepth 100000 in
theorem c_X8_copy_b (l : Launch) (D : va_G) (cI cZ cC cS : ClassId) (sq sz : Nat) (x : Nat) (xs : Nat) (xt : Nat) (xc : Nat) (xd : Nat) (xr : Nat) (xi : Nat) (xv : Nat) (xw : Nat) (xh : Nat) (xm : Nat) (xa : Nat) (a : Int32) (i : Int32) (b : Int32) (j : Int32) (n : Int32) (hr : 0 ≤ a.toInt ∧ a.toInt ≤ 7) (hb : b.toInt < 0 ∨ 7 < b.toInt) : mI l yX8_copy wsX8_copy 2 41 D (tyW cI cZ cC cS) sq [(x, .inr (8, [.ref xs, .ref xt, .ref xc, .ref xd, .ref xr, .ref xi, .ref xv, .ref xw, .ref xh, .ref xm, .ref xa, .int 0, .int 0]))] sz [.ref x, .int a, .int i, .int b, .int j, .int n] (fun r w => r = -1000001 ∧ w = [(x, .inr (8, [.ref xs, .ref xt, .ref xc, .ref xd, .ref xr, .ref xi, .ref xv, .ref xw, .ref xh, .ref xm, .ref xa, .int 0, .int 0]))]) := by
  refine b_metI (cc := cX8_copy) (maxL := 8) (ret := (some .int)) (by decide) rfl (Nat.le_of_ble_eq_true rfl) ?_
  intro p e s m below meth c ls A H X hsz hP hK hD hA hS hl
  have S : CallFix p m c cX8_copy 8 s ([.ref x, .int a, .int i, .int b, .int j, .int n] : List Value).toArray wsX8_copy RX8 := X.1
  have hl : lv_has ls 8 [(0, .ref x), (1, .int a), (2, .int i), (3, .int b), (4, .int j), (5, .int n)] := hl
  refine lv_iload_n S.1 S.2.1 dX8_copy_0 rfl (lv_at hl 1 rfl) ?_
  refine b_ai (wr := [(x, .inr (8, [.ref xs, .ref xt, .ref xc, .ref xd, .ref xr, .ref xi, .ref xv, .ref xw, .ref xh, .ref xm, .ref xa, .int 0, .int 0]))]) (b_runS (As := [.int a]) (c_X8_isSheet_t l D cI cZ cC cS sq H.size a (by assumption)) S gX8_copy_X8_isSheet rfl hdS_X8_isSheet ⟨Nat.le_of_ble_eq_true rfl, Nat.le_of_ble_eq_true rfl⟩ ⟨Nat.le_of_ble_eq_true rfl, Nat.le_of_ble_eq_true rfl⟩ hK hP hD [] rfl (by decide) rfl hl.1 rfl (Nat.le_of_ble_eq_true rfl) dX8_copy_1) hP hD hS hA [] [0] rfl rfl (by decide) (by decide) (fun r_1 w_2 H locs hw_3 hP hD hS => ?_)
  obtain ⟨rfl, rfl⟩ := hw_3
  have hP : va_P D vwCl [(x, .inr (8, [.ref xs, .ref xt, .ref xc, .ref xd, .ref xr, .ref xi, .ref xv, .ref xw, .ref xh, .ref xm, .ref xa, .int 0, .int 0]))] H := hP
  have hD : va_D A [(x, .inr (8, [.ref xs, .ref xt, .ref xc, .ref xd, .ref xr, .ref xi, .ref xv, .ref xw, .ref xh, .ref xm, .ref xa, .int 0, .int 0]))] := hD
  refine lv_if_eq (tgt := 14) S.1 S.2.1 dX8_copy_4 (by decide) (fun c_4 => absurd c_4 (by decide)) (fun c_4 => ?_)
  refine lv_iload_n S.1 S.2.1 dX8_copy_7 rfl (lv_at hl 3 rfl) ?_
  refine b_ai (wr := [(x, .inr (8, [.ref xs, .ref xt, .ref xc, .ref xd, .ref xr, .ref xi, .ref xv, .ref xw, .ref xh, .ref xm, .ref xa, .int 0, .int 0]))]) (b_runS (As := [.int b]) (c_X8_isSheet_f l D cI cZ cC cS sq H.size b hb) S gX8_copy_X8_isSheet rfl hdS_X8_isSheet ⟨Nat.le_of_ble_eq_true rfl, Nat.le_of_ble_eq_true rfl⟩ ⟨Nat.le_of_ble_eq_true rfl, Nat.le_of_ble_eq_true rfl⟩ hK hP hD [] rfl (by decide) rfl hl.1 rfl (Nat.le_of_ble_eq_true rfl) dX8_copy_8) hP hD hS hA [] [0] rfl rfl (by decide) (by decide) (fun r_5 w_6 H locs hw_7 hP hD hS => ?_)
  obtain ⟨rfl, rfl⟩ := hw_7
  have hP : va_P D vwCl [(x, .inr (8, [.ref xs, .ref xt, .ref xc, .ref xd, .ref xr, .ref xi, .ref xv, .ref xw, .ref xh, .ref xm, .ref xa, .int 0, .int 0]))] H := hP
  have hD : va_D A [(x, .inr (8, [.ref xs, .ref xt, .ref xc, .ref xd, .ref xr, .ref xi, .ref xv, .ref xw, .ref xh, .ref xm, .ref xa, .int 0, .int 0]))] := hD
  refine lv_if_ne (tgt := 17) S.1 S.2.1 dX8_copy_11 (by decide) (fun c_8 => absurd c_8 (by decide)) (fun c_8 => ?_)
  refine lv_ldc (v := (-1000001)) S.1 S.2.1 S.2.2.2.1 (S.2.2.2.2 (.constant RX8 98 (-1000001)) (by decide +kernel)) dX8_copy_14 ?_
  exact b_iret S.1 S.2.1 X.2.1 X.2.2.1 hP hD hS ⟨rfl, rfl⟩ dX8_copy_16
set_option maxHeartbeats 4000000 in
set_option maxRecDepth 100000 in
theorem c_X8_copy_ok (l : Launch) (D : va_G) (cI cZ cC cS : ClassId) (sq sz : Nat) (x : Nat) (xs : Nat) (xt : Nat) (xc : Nat) (xd : Nat) (xr : Nat) (xi : Nat) (xv : Nat) (xw : Nat) (xh : Nat) (xm : Nat) (xa : Nat) (gs : Nat → Option Nat) (sh : Nat) (it : Nat) (a : Int32) (i : Int32) (b : Int32) (j : Int32) (n : Int32) (sb : Nat) (hr : 0 ≤ a.toInt ∧ a.toInt ≤ 7) (hb : 0 ≤ b.toInt ∧ b.toInt ≤ 7) (hfs : gs a.toNatClampNeg = some sh) (hfb : gs b.toNatClampNeg = some sb) : mI l yX8_copy wsX8_copy 2 41 D (tyW cI cZ cC cS) sq [(x, .inr (8, [.ref xs, .ref xt, .ref xc, .ref xd, .ref xr, .ref xi, .ref xv, .ref xw, .ref xh, .ref xm, .ref xa, .int 0, .int 0])), (xs, .inl (cS, 8, .inr (.inr (.inr (.inr gs))))), (sh, .inr (4, [.int (-1), .int 0, .ref it]))] sz [.ref x, .int a, .int i, .int b, .int j, .int n] (fun r w => r = -1000011 ∧ w = [(xs, .inl (cS, 8, .inr (.inr (.inr (.inr gs))))), (sh, .inr (4, [.int (-1), .int 0, .ref it])), (x, .inr (8, [.ref xs, .ref xt, .ref xc, .ref xd, .ref xr, .ref xi, .ref xv, .ref xw, .ref xh, .ref xm, .ref xa, .int 0, .int 1]))]) := by
  refine b_metI (cc := cX8_copy) (maxL := 8) (ret := (some .int)) (by decide) rfl (Nat.le_of_ble_eq_true rfl) ?_
  intro p e s m below meth c ls A H X hsz hP hK hD hA hS hl
  have S : CallFix p m c cX8_copy 8 s ([.ref x, .int a, .int i, .int b, .int j, .int n] : List Value).toArray wsX8_copy RX8 := X.1
  have hl : lv_has ls 8 [(0, .ref x), (1, .int a), (2, .int i), (3, .int b), (4, .int j), (5, .int n)] := hl
  have iX8 := jX8_copy_X8
  refine lv_iload_n S.1 S.2.1 dX8_copy_0 rfl (lv_at hl 1 rfl) ?_
  refine b_ai (wr := [(x, .inr (8, [.ref xs, .ref xt, .ref xc, .ref xd, .ref xr, .ref xi, .ref xv, .ref xw, .ref xh, .ref xm, .ref xa, .int 0, .int 0])), (xs, .inl (cS, 8, .inr (.inr (.inr (.inr gs))))), (sh, .inr (4, [.int (-1), .int 0, .ref it]))]) (b_runS (As := [.int a]) (c_X8_isSheet_t l D cI cZ cC cS sq H.size a (by assumption)) S gX8_copy_X8_isSheet rfl hdS_X8_isSheet ⟨Nat.le_of_ble_eq_true rfl, Nat.le_of_ble_eq_true rfl⟩ ⟨Nat.le_of_ble_eq_true rfl, Nat.le_of_ble_eq_true rfl⟩ hK hP hD [] rfl (by decide) rfl hl.1 rfl (Nat.le_of_ble_eq_true rfl) dX8_copy_1) hP hD hS hA [] [0, 1, 2] rfl rfl (by decide) (by decide) (fun r_1 w_2 H locs hw_3 hP hD hS => ?_)
  obtain ⟨rfl, rfl⟩ := hw_3
  have hP : va_P D vwCl [(x, .inr (8, [.ref xs, .ref xt, .ref xc, .ref xd, .ref xr, .ref xi, .ref xv, .ref xw, .ref xh, .ref xm, .ref xa, .int 0, .int 0])), (xs, .inl (cS, 8, .inr (.inr (.inr (.inr gs))))), (sh, .inr (4, [.int (-1), .int 0, .ref it]))] H := hP
  have hD : va_D A [(x, .inr (8, [.ref xs, .ref xt, .ref xc, .ref xd, .ref xr, .ref xi, .ref xv, .ref xw, .ref xh, .ref xm, .ref xa, .int 0, .int 0])), (xs, .inl (cS, 8, .inr (.inr (.inr (.inr gs))))), (sh, .inr (4, [.int (-1), .int 0, .ref it]))] := hD
  refine lv_if_eq (tgt := 14) S.1 S.2.1 dX8_copy_4 (by decide) (fun c_4 => absurd c_4 (by decide)) (fun c_4 => ?_)
  refine lv_iload_n S.1 S.2.1 dX8_copy_7 rfl (lv_at hl 3 rfl) ?_
  refine b_ai (wr := [(x, .inr (8, [.ref xs, .ref xt, .ref xc, .ref xd, .ref xr, .ref xi, .ref xv, .ref xw, .ref xh, .ref xm, .ref xa, .int 0, .int 0])), (xs, .inl (cS, 8, .inr (.inr (.inr (.inr gs))))), (sh, .inr (4, [.int (-1), .int 0, .ref it]))]) (b_runS (As := [.int b]) (c_X8_isSheet_t l D cI cZ cC cS sq H.size b hb) S gX8_copy_X8_isSheet rfl hdS_X8_isSheet ⟨Nat.le_of_ble_eq_true rfl, Nat.le_of_ble_eq_true rfl⟩ ⟨Nat.le_of_ble_eq_true rfl, Nat.le_of_ble_eq_true rfl⟩ hK hP hD [] rfl (by decide) rfl hl.1 rfl (Nat.le_of_ble_eq_true rfl) dX8_copy_8) hP hD hS hA [] [0, 1, 2] rfl rfl (by decide) (by decide) (fun r_5 w_6 H locs hw_7 hP hD hS => ?_)
  obtain ⟨rfl, rfl⟩ := hw_7
  have hP : va_P D vwCl [(x, .inr (8, [.ref xs, .ref xt, .ref xc, .ref xd, .ref xr, .ref xi, .ref xv, .ref xw, .ref xh, .ref xm, .ref xa, .int 0, .int 0])), (xs, .inl (cS, 8, .inr (.inr (.inr (.inr gs))))), (sh, .inr (4, [.int (-1), .int 0, .ref it]))] H := hP
  have hD : va_D A [(x, .inr (8, [.ref xs, .ref xt, .ref xc, .ref xd, .ref xr, .ref xi, .ref xv, .ref xw, .ref xh, .ref xm, .ref xa, .int 0, .int 0])), (xs, .inl (cS, 8, .inr (.inr (.inr (.inr gs))))), (sh, .inr (4, [.int (-1), .int 0, .ref it]))] := hD
  refine lv_if_ne (tgt := 17) S.1 S.2.1 dX8_copy_11 (by decide) (fun c_8 => ?_) (fun c_8 => absurd c_8 (by decide))
  refine lv_aload_n S.1 S.2.1 dX8_copy_17 rfl (lv_at hl 0 rfl) ?_
  refine b_get (v := .ref xs) S iX8 hK hP 0 rfl rfl 0 (by decide) (by decide +kernel) rfl dX8_copy_18 ?_
  refine lv_iload_n S.1 S.2.1 dX8_copy_21 rfl (lv_at hl 1 rfl) ?_
  refine b_aald S.1 S.2.1 hK.1 hP 1 3 rfl rfl (in_of (n := 8) (by omega) (by omega)) hfs dX8_copy_22 ?_
  refine lv_astore (lv' := [(6, .ref sh), (0, .ref x), (1, .int a), (2, .int i), (3, .int b), (4, .int j), (5, .int n)]) S.1 S.2.1 dX8_copy_23 hl (by decide) rfl (fun ls hl => ?_)
  refine lv_aload_n S.1 S.2.1 dX8_copy_25 rfl (lv_at hl 1 rfl) ?_
  refine b_get (v := .ref xs) S iX8 hK hP 0 rfl rfl 0 (by decide) (by decide +kernel) rfl dX8_copy_26 ?_
  refine lv_iload_n S.1 S.2.1 dX8_copy_29 rfl (lv_at hl 4 rfl) ?_
  refine b_aald S.1 S.2.1 hK.1 hP 1 3 rfl rfl (in_of (n := 8) (by omega) (by omega)) hfb dX8_copy_30 ?_
  refine lv_astore (lv' := [(7, .ref sb), (6, .ref sh), (0, .ref x), (1, .int a), (2, .int i), (3, .int b), (4, .int j), (5, .int n)]) S.1 S.2.1 dX8_copy_31 hl (by decide) rfl (fun ls hl => ?_)
  refine lv_aload S.1 S.2.1 dX8_copy_33 (lv_at hl 1 rfl) ?_
  refine b_ai (wr := [(x, .inr (8, [.ref xs, .ref xt, .ref xc, .ref xd, .ref xr, .ref xi, .ref xv, .ref xw, .ref xh, .ref xm, .ref xa, .int 0, .int 0])), (xs, .inl (cS, 8, .inr (.inr (.inr (.inr gs)))))]) (b_runV (q0 := 2) (ci := 4) (As := []) (c_X4_isMissing l D cI cZ cC cS sq H.size sh it) S gX8_copy_X4_isMissing rfl hdV_X4_isMissing ⟨Nat.le_of_ble_eq_true rfl, Nat.le_of_ble_eq_true rfl⟩ ⟨Nat.le_of_ble_eq_true rfl, Nat.le_of_ble_eq_true rfl⟩ hK hP hD rfl rfl [2] rfl (by decide) rfl hl.1 rfl (Nat.le_of_ble_eq_true rfl) dX8_copy_35) hP hD hS hA [2] [0, 1] rfl rfl (by decide) (by decide) (fun r_9 w_10 H locs hw_11 hP hD hS => ?_)
  obtain ⟨rfl, rfl⟩ := hw_11
  have hP : va_P D vwCl [(x, .inr (8, [.ref xs, .ref xt, .ref xc, .ref xd, .ref xr, .ref xi, .ref xv, .ref xw, .ref xh, .ref xm, .ref xa, .int 0, .int 0])), (xs, .inl (cS, 8, .inr (.inr (.inr (.inr gs))))), (sh, .inr (4, [.int (-1), .int 0, .ref it]))] H := hP
  have hD : va_D A [(x, .inr (8, [.ref xs, .ref xt, .ref xc, .ref xd, .ref xr, .ref xi, .ref xv, .ref xw, .ref xh, .ref xm, .ref xa, .int 0, .int 0])), (xs, .inl (cS, 8, .inr (.inr (.inr (.inr gs))))), (sh, .inr (4, [.int (-1), .int 0, .ref it]))] := hD
  refine lv_if_ne (tgt := 49) S.1 S.2.1 dX8_copy_38 (by decide) (fun c_12 => ?_) (fun c_12 => absurd c_12 (by decide))
  refine lv_aload_n S.1 S.2.1 dX8_copy_49 rfl (lv_at hl 2 rfl) ?_
  refine lv_iconst (v := 1) S.1 S.2.1 dX8_copy_50 (by decide) ?_
  refine b_ai (wr := [(xs, .inl (cS, 8, .inr (.inr (.inr (.inr gs))))), (sh, .inr (4, [.int (-1), .int 0, .ref it]))]) (b_runV (q0 := 0) (ci := 8) (As := [.int 1]) (c_X8_found_1 l D cI cZ cC cS sq H.size x xs xt xc xd xr xi xv xw xh xm xa) S gX8_copy_X8_found rfl hdV_X8_found ⟨Nat.le_of_ble_eq_true rfl, Nat.le_of_ble_eq_true rfl⟩ ⟨Nat.le_of_ble_eq_true rfl, Nat.le_of_ble_eq_true rfl⟩ hK hP hD rfl rfl [0] rfl (by decide) rfl hl.1 rfl (Nat.le_of_ble_eq_true rfl) dX8_copy_51) hP hD hS hA [0] [1, 2] rfl rfl (by decide) (by decide) (fun r_13 w_14 H locs hw_15 hP hD hS => ?_)
  obtain ⟨rfl, rfl⟩ := hw_15
  have hP : va_P D vwCl [(xs, .inl (cS, 8, .inr (.inr (.inr (.inr gs))))), (sh, .inr (4, [.int (-1), .int 0, .ref it])), (x, .inr (8, [.ref xs, .ref xt, .ref xc, .ref xd, .ref xr, .ref xi, .ref xv, .ref xw, .ref xh, .ref xm, .ref xa, .int 0, .int 1]))] H := hP
  have hD : va_D A [(xs, .inl (cS, 8, .inr (.inr (.inr (.inr gs))))), (sh, .inr (4, [.int (-1), .int 0, .ref it])), (x, .inr (8, [.ref xs, .ref xt, .ref xc, .ref xd, .ref xr, .ref xi, .ref xv, .ref xw, .ref xh, .ref xm, .ref xa, .int 0, .int 1]))] := hD
  exact b_iret S.1 S.2.1 X.2.1 X.2.2.1 hP hD hS ⟨rfl, rfl⟩ dX8_copy_54
set_option maxHeartbeats 4000000 in
set_option maxRecDepth 100000 in
theorem c_X8_sheet_a (l : Launch) (D : va_G) (cI cZ cC cS : ClassId) (sq sz : Nat) (x : Nat) (xs : Nat) (xt : Nat) (xc : Nat) (xd : Nat) (xr : Nat) (xi : Nat) (xv : Nat) (xw : Nat) (xh : Nat) (xm : Nat) (xa : Nat) (a : Int32) (b : Int32) (n : Int32) (hr : a.toInt < 0 ∨ 7 < a.toInt) : mI l yX8_sheet wsX8_sheet 2 41 D (tyW cI cZ cC cS) sq [(x, .inr (8, [.ref xs, .ref xt, .ref xc, .ref xd, .ref xr, .ref xi, .ref xv, .ref xw, .ref xh, .ref xm, .ref xa, .int 0, .int 0]))] sz [.ref x, .int a, .int b, .int n] (fun r w => r = -1000001 ∧ w = [(x, .inr (8, [.ref xs, .ref xt, .ref xc, .ref xd, .ref xr, .ref xi, .ref xv, .ref xw, .ref xh, .ref xm, .ref xa, .int 0, .int 0]))]) := by
  refine b_metI (cc := cX8_sheet) (maxL := 4) (ret := (some .int)) (by decide) rfl (Nat.le_of_ble_eq_true rfl) ?_
  intro p e s m below meth c ls A H X hsz hP hK hD hA hS hl
  have S : CallFix p m c cX8_sheet 4 s ([.ref x, .int a, .int b, .int n] : List Value).toArray wsX8_sheet RX8 := X.1
  have hl : lv_has ls 4 [(0, .ref x), (1, .int a), (2, .int b), (3, .int n)] := hl
  refine lv_iload_n S.1 S.2.1 dX8_sheet_0 rfl (lv_at hl 1 rfl) ?_
  refine b_ai (wr := [(x, .inr (8, [.ref xs, .ref xt, .ref xc, .ref xd, .ref xr, .ref xi, .ref xv, .ref xw, .ref xh, .ref xm, .ref xa, .int 0, .int 0]))]) (b_runS (As := [.int a]) (c_X8_isSheet_f l D cI cZ cC cS sq H.size a (by assumption)) S gX8_sheet_X8_isSheet rfl hdS_X8_isSheet ⟨Nat.le_of_ble_eq_true rfl, Nat.le_of_ble_eq_true rfl⟩ ⟨Nat.le_of_ble_eq_true rfl, Nat.le_of_ble_eq_true rfl⟩ hK hP hD [] rfl (by decide) rfl hl.1 rfl (Nat.le_of_ble_eq_true rfl) dX8_sheet_1) hP hD hS hA [] [0] rfl rfl (by decide) (by decide) (fun r_1 w_2 H locs hw_3 hP hD hS => ?_)
  obtain ⟨rfl, rfl⟩ := hw_3
  have hP : va_P D vwCl [(x, .inr (8, [.ref xs, .ref xt, .ref xc, .ref xd, .ref xr, .ref xi, .ref xv, .ref xw, .ref xh, .ref xm, .ref xa, .int 0, .int 0]))] H := hP
  have hD : va_D A [(x, .inr (8, [.ref xs, .ref xt, .ref xc, .ref xd, .ref xr, .ref xi, .ref xv, .ref xw, .ref xh, .ref xm, .ref xa, .int 0, .int 0]))] := hD
  refine lv_if_eq (tgt := 21) S.1 S.2.1 dX8_sheet_4 (by decide) (fun c_4 => ?_) (fun c_4 => absurd c_4 (by decide))
  refine lv_ldc (v := (-1000001)) S.1 S.2.1 S.2.2.2.1 (S.2.2.2.2 (.constant RX8 98 (-1000001)) (by decide +kernel)) dX8_sheet_21 ?_
  exact b_iret S.1 S.2.1 X.2.1 X.2.2.1 hP hD hS ⟨rfl, rfl⟩ dX8_sheet_23
set_option maxHeartbeats 4000000 in
set_option maxRecDepth 100000 in
theorem c_X8_sheet_b (l : Launch) (D : va_G) (cI cZ cC cS : ClassId) (sq sz : Nat) (x : Nat) (xs : Nat) (xt : Nat) (xc : Nat) (xd : Nat) (xr : Nat) (xi : Nat) (xv : Nat) (xw : Nat) (xh : Nat) (xm : Nat) (xa : Nat) (a : Int32) (b : Int32) (n : Int32) (hr : 0 ≤ a.toInt ∧ a.toInt ≤ 7) (hl2 : b.toInt < 0 ∨ 2 < b.toInt) : mI l yX8_sheet wsX8_sheet 2 41 D (tyW cI cZ cC cS) sq [(x, .inr (8, [.ref xs, .ref xt, .ref xc, .ref xd, .ref xr, .ref xi, .ref xv, .ref xw, .ref xh, .ref xm, .ref xa, .int 0, .int 0]))] sz [.ref x, .int a, .int b, .int n] (fun r w => r = -1000001 ∧ w = [(x, .inr (8, [.ref xs, .ref xt, .ref xc, .ref xd, .ref xr, .ref xi, .ref xv, .ref xw, .ref xh, .ref xm, .ref xa, .int 0, .int 0]))]) := by
  refine b_metI (cc := cX8_sheet) (maxL := 4) (ret := (some .int)) (by decide) rfl (Nat.le_of_ble_eq_true rfl) ?_
  intro p e s m below meth c ls A H X hsz hP hK hD hA hS hl
  have S : CallFix p m c cX8_sheet 4 s ([.ref x, .int a, .int b, .int n] : List Value).toArray wsX8_sheet RX8 := X.1
  have hl : lv_has ls 4 [(0, .ref x), (1, .int a), (2, .int b), (3, .int n)] := hl
  refine lv_iload_n S.1 S.2.1 dX8_sheet_0 rfl (lv_at hl 1 rfl) ?_
  refine b_ai (wr := [(x, .inr (8, [.ref xs, .ref xt, .ref xc, .ref xd, .ref xr, .ref xi, .ref xv, .ref xw, .ref xh, .ref xm, .ref xa, .int 0, .int 0]))]) (b_runS (As := [.int a]) (c_X8_isSheet_t l D cI cZ cC cS sq H.size a (by assumption)) S gX8_sheet_X8_isSheet rfl hdS_X8_isSheet ⟨Nat.le_of_ble_eq_true rfl, Nat.le_of_ble_eq_true rfl⟩ ⟨Nat.le_of_ble_eq_true rfl, Nat.le_of_ble_eq_true rfl⟩ hK hP hD [] rfl (by decide) rfl hl.1 rfl (Nat.le_of_ble_eq_true rfl) dX8_sheet_1) hP hD hS hA [] [0] rfl rfl (by decide) (by decide) (fun r_1 w_2 H locs hw_3 hP hD hS => ?_)
  obtain ⟨rfl, rfl⟩ := hw_3
  have hP : va_P D vwCl [(x, .inr (8, [.ref xs, .ref xt, .ref xc, .ref xd, .ref xr, .ref xi, .ref xv, .ref xw, .ref xh, .ref xm, .ref xa, .int 0, .int 0]))] H := hP
  have hD : va_D A [(x, .inr (8, [.ref xs, .ref xt, .ref xc, .ref xd, .ref xr, .ref xi, .ref xv, .ref xw, .ref xh, .ref xm, .ref xa, .int 0, .int 0]))] := hD
  refine lv_if_eq (tgt := 21) S.1 S.2.1 dX8_sheet_4 (by decide) (fun c_4 => absurd c_4 (by decide)) (fun c_4 => ?_)
  refine lv_iload_n S.1 S.2.1 dX8_sheet_7 rfl (lv_at hl 2 rfl) ?_
  refine lv_iconst (v := 3) S.1 S.2.1 dX8_sheet_8 (by decide) ?_
  refine b_ai (wr := [(x, .inr (8, [.ref xs, .ref xt, .ref xc, .ref xd, .ref xr, .ref xi, .ref xv, .ref xw, .ref xh, .ref xm, .ref xa, .int 0, .int 0]))]) (b_runS (As := [.int b, .int 3]) (c_X8_within_f l D cI cZ cC cS sq H.size b 3 (fun z => by rw [c_lt (N := 0) rfl] at z; rw [c_ge (N := 3) rfl]; omega)) S gX8_sheet_X8_within rfl hdS_X8_within ⟨Nat.le_of_ble_eq_true rfl, Nat.le_of_ble_eq_true rfl⟩ ⟨Nat.le_of_ble_eq_true rfl, Nat.le_of_ble_eq_true rfl⟩ hK hP hD [] rfl (by decide) rfl hl.1 rfl (Nat.le_of_ble_eq_true rfl) dX8_sheet_9) hP hD hS hA [] [0] rfl rfl (by decide) (by decide) (fun r_5 w_6 H locs hw_7 hP hD hS => ?_)
  obtain ⟨rfl, rfl⟩ := hw_7
  have hP : va_P D vwCl [(x, .inr (8, [.ref xs, .ref xt, .ref xc, .ref xd, .ref xr, .ref xi, .ref xv, .ref xw, .ref xh, .ref xm, .ref xa, .int 0, .int 0]))] H := hP
  have hD : va_D A [(x, .inr (8, [.ref xs, .ref xt, .ref xc, .ref xd, .ref xr, .ref xi, .ref xv, .ref xw, .ref xh, .ref xm, .ref xa, .int 0, .int 0]))] := hD
  refine lv_if_eq (tgt := 21) S.1 S.2.1 dX8_sheet_12 (by decide) (fun c_8 => ?_) (fun c_8 => absurd c_8 (by decide))
  refine lv_ldc (v := (-1000001)) S.1 S.2.1 S.2.2.2.1 (S.2.2.2.2 (.constant RX8 98 (-1000001)) (by decide +kernel)) dX8_sheet_21 ?_
  exact b_iret S.1 S.2.1 X.2.1 X.2.2.1 hP hD hS ⟨rfl, rfl⟩ dX8_sheet_23
set_option maxHeartbeats 4000000 in
set_option maxRecDepth 100000 in
theorem c_X8_sheet_n (l : Launch) (D : va_G) (cI cZ cC cS : ClassId) (sq sz : Nat) (x : Nat) (xs : Nat) (xt : Nat) (xc : Nat) (xd : Nat) (xr : Nat) (xi : Nat) (xv : Nat) (xw : Nat) (xh : Nat) (xm : Nat) (xa : Nat) (a : Int32) (b : Int32) (n : Int32) (hr : 0 ≤ a.toInt ∧ a.toInt ≤ 7) (hl2 : 0 ≤ b.toInt ∧ b.toInt ≤ 2) (hn : 40 < n.toInt) : mI l yX8_sheet wsX8_sheet 2 41 D (tyW cI cZ cC cS) sq [(x, .inr (8, [.ref xs, .ref xt, .ref xc, .ref xd, .ref xr, .ref xi, .ref xv, .ref xw, .ref xh, .ref xm, .ref xa, .int 0, .int 0]))] sz [.ref x, .int a, .int b, .int n] (fun r w => r = -1000001 ∧ w = [(x, .inr (8, [.ref xs, .ref xt, .ref xc, .ref xd, .ref xr, .ref xi, .ref xv, .ref xw, .ref xh, .ref xm, .ref xa, .int 0, .int 0]))]) := by
  refine b_metI (cc := cX8_sheet) (maxL := 4) (ret := (some .int)) (by decide) rfl (Nat.le_of_ble_eq_true rfl) ?_
  intro p e s m below meth c ls A H X hsz hP hK hD hA hS hl
  have S : CallFix p m c cX8_sheet 4 s ([.ref x, .int a, .int b, .int n] : List Value).toArray wsX8_sheet RX8 := X.1
  have hl : lv_has ls 4 [(0, .ref x), (1, .int a), (2, .int b), (3, .int n)] := hl
  refine lv_iload_n S.1 S.2.1 dX8_sheet_0 rfl (lv_at hl 1 rfl) ?_
  refine b_ai (wr := [(x, .inr (8, [.ref xs, .ref xt, .ref xc, .ref xd, .ref xr, .ref xi, .ref xv, .ref xw, .ref xh, .ref xm, .ref xa, .int 0, .int 0]))]) (b_runS (As := [.int a]) (c_X8_isSheet_t l D cI cZ cC cS sq H.size a (by assumption)) S gX8_sheet_X8_isSheet rfl hdS_X8_isSheet ⟨Nat.le_of_ble_eq_true rfl, Nat.le_of_ble_eq_true rfl⟩ ⟨Nat.le_of_ble_eq_true rfl, Nat.le_of_ble_eq_true rfl⟩ hK hP hD [] rfl (by decide) rfl hl.1 rfl (Nat.le_of_ble_eq_true rfl) dX8_sheet_1) hP hD hS hA [] [0] rfl rfl (by decide) (by decide) (fun r_1 w_2 H locs hw_3 hP hD hS => ?_)
  obtain ⟨rfl, rfl⟩ := hw_3
  have hP : va_P D vwCl [(x, .inr (8, [.ref xs, .ref xt, .ref xc, .ref xd, .ref xr, .ref xi, .ref xv, .ref xw, .ref xh, .ref xm, .ref xa, .int 0, .int 0]))] H := hP
  have hD : va_D A [(x, .inr (8, [.ref xs, .ref xt, .ref xc, .ref xd, .ref xr, .ref xi, .ref xv, .ref xw, .ref xh, .ref xm, .ref xa, .int 0, .int 0]))] := hD
  refine lv_if_eq (tgt := 21) S.1 S.2.1 dX8_sheet_4 (by decide) (fun c_4 => absurd c_4 (by decide)) (fun c_4 => ?_)
  refine lv_iload_n S.1 S.2.1 dX8_sheet_7 rfl (lv_at hl 2 rfl) ?_
  refine lv_iconst (v := 3) S.1 S.2.1 dX8_sheet_8 (by decide) ?_
  refine b_ai (wr := [(x, .inr (8, [.ref xs, .ref xt, .ref xc, .ref xd, .ref xr, .ref xi, .ref xv, .ref xw, .ref xh, .ref xm, .ref xa, .int 0, .int 0]))]) (b_runS (As := [.int b, .int 3]) (c_X8_within_t l D cI cZ cC cS sq H.size b 3 (by rw [c_lt (N := 0) rfl]; omega) (by rw [c_ge (N := 3) rfl]; omega)) S gX8_sheet_X8_within rfl hdS_X8_within ⟨Nat.le_of_ble_eq_true rfl, Nat.le_of_ble_eq_true rfl⟩ ⟨Nat.le_of_ble_eq_true rfl, Nat.le_of_ble_eq_true rfl⟩ hK hP hD [] rfl (by decide) rfl hl.1 rfl (Nat.le_of_ble_eq_true rfl) dX8_sheet_9) hP hD hS hA [] [0] rfl rfl (by decide) (by decide) (fun r_5 w_6 H locs hw_7 hP hD hS => ?_)
  obtain ⟨rfl, rfl⟩ := hw_7
  have hP : va_P D vwCl [(x, .inr (8, [.ref xs, .ref xt, .ref xc, .ref xd, .ref xr, .ref xi, .ref xv, .ref xw, .ref xh, .ref xm, .ref xa, .int 0, .int 0]))] H := hP
  have hD : va_D A [(x, .inr (8, [.ref xs, .ref xt, .ref xc, .ref xd, .ref xr, .ref xi, .ref xv, .ref xw, .ref xh, .ref xm, .ref xa, .int 0, .int 0]))] := hD
  refine lv_if_eq (tgt := 21) S.1 S.2.1 dX8_sheet_12 (by decide) (fun c_8 => absurd c_8 (by decide)) (fun c_8 => ?_)
  refine lv_iload_n S.1 S.2.1 dX8_sheet_15 rfl (lv_at hl 3 rfl) ?_
  refine lv_bipush (v := 40) S.1 S.2.1 dX8_sheet_16 (by decide) ?_
  refine lv_icmp_le (tgt := 24) S.1 S.2.1 dX8_sheet_18 (by decide) (fun c_9 => (by exfalso; have z := c_9; rw [c_le (N := 40) rfl] at z; omega)) (fun c_9 => ?_)
  refine lv_ldc (v := (-1000001)) S.1 S.2.1 S.2.2.2.1 (S.2.2.2.2 (.constant RX8 98 (-1000001)) (by decide +kernel)) dX8_sheet_21 ?_
  exact b_iret S.1 S.2.1 X.2.1 X.2.2.1 hP hD hS ⟨rfl, rfl⟩ dX8_sheet_23
set_option maxHeartbeats 4000000 in
set_option maxRecDepth 100000 in
theorem c_X8_sheet_m (l : Launch) (D : va_G) (cI cZ cC cS : ClassId) (sq sz : Nat) (x : Nat) (xs : Nat) (xt : Nat) (xc : Nat) (xd : Nat) (xr : Nat) (xi : Nat) (xv : Nat) (xw : Nat) (xh : Nat) (xm : Nat) (xa : Nat) (a : Int32) (b : Int32) (n : Int32) (hr : 0 ≤ a.toInt ∧ a.toInt ≤ 7) (hl2 : 0 ≤ b.toInt ∧ b.toInt ≤ 2) (hn : n.toInt < 0) : mI l yX8_sheet wsX8_sheet 2 41 D (tyW cI cZ cC cS) sq [(x, .inr (8, [.ref xs, .ref xt, .ref xc, .ref xd, .ref xr, .ref xi, .ref xv, .ref xw, .ref xh, .ref xm, .ref xa, .int 0, .int 0]))] sz [.ref x, .int a, .int b, .int n] (fun r w => r = -1000014 ∧ w = [(x, .inr (8, [.ref xs, .ref xt, .ref xc, .ref xd, .ref xr, .ref xi, .ref xv, .ref xw, .ref xh, .ref xm, .ref xa, .int 0, .int 4]))]) := by
  refine b_metI (cc := cX8_sheet) (maxL := 4) (ret := (some .int)) (by decide) rfl (Nat.le_of_ble_eq_true rfl) ?_
  intro p e s m below meth c ls A H X hsz hP hK hD hA hS hl
  have S : CallFix p m c cX8_sheet 4 s ([.ref x, .int a, .int b, .int n] : List Value).toArray wsX8_sheet RX8 := X.1
  have hl : lv_has ls 4 [(0, .ref x), (1, .int a), (2, .int b), (3, .int n)] := hl
  refine lv_iload_n S.1 S.2.1 dX8_sheet_0 rfl (lv_at hl 1 rfl) ?_
  refine b_ai (wr := [(x, .inr (8, [.ref xs, .ref xt, .ref xc, .ref xd, .ref xr, .ref xi, .ref xv, .ref xw, .ref xh, .ref xm, .ref xa, .int 0, .int 0]))]) (b_runS (As := [.int a]) (c_X8_isSheet_t l D cI cZ cC cS sq H.size a (by assumption)) S gX8_sheet_X8_isSheet rfl hdS_X8_isSheet ⟨Nat.le_of_ble_eq_true rfl, Nat.le_of_ble_eq_true rfl⟩ ⟨Nat.le_of_ble_eq_true rfl, Nat.le_of_ble_eq_true rfl⟩ hK hP hD [] rfl (by decide) rfl hl.1 rfl (Nat.le_of_ble_eq_true rfl) dX8_sheet_1) hP hD hS hA [] [0] rfl rfl (by decide) (by decide) (fun r_1 w_2 H locs hw_3 hP hD hS => ?_)
  obtain ⟨rfl, rfl⟩ := hw_3
  have hP : va_P D vwCl [(x, .inr (8, [.ref xs, .ref xt, .ref xc, .ref xd, .ref xr, .ref xi, .ref xv, .ref xw, .ref xh, .ref xm, .ref xa, .int 0, .int 0]))] H := hP
  have hD : va_D A [(x, .inr (8, [.ref xs, .ref xt, .ref xc, .ref xd, .ref xr, .ref xi, .ref xv, .ref xw, .ref xh, .ref xm, .ref xa, .int 0, .int 0]))] := hD
  refine lv_if_eq (tgt := 21) S.1 S.2.1 dX8_sheet_4 (by decide) (fun c_4 => absurd c_4 (by decide)) (fun c_4 => ?_)
  refine lv_iload_n S.1 S.2.1 dX8_sheet_7 rfl (lv_at hl 2 rfl) ?_
  refine lv_iconst (v := 3) S.1 S.2.1 dX8_sheet_8 (by decide) ?_
  refine b_ai (wr := [(x, .inr (8, [.ref xs, .ref xt, .ref xc, .ref xd, .ref xr, .ref xi, .ref xv, .ref xw, .ref xh, .ref xm, .ref xa, .int 0, .int 0]))]) (b_runS (As := [.int b, .int 3]) (c_X8_within_t l D cI cZ cC cS sq H.size b 3 (by rw [c_lt (N := 0) rfl]; omega) (by rw [c_ge (N := 3) rfl]; omega)) S gX8_sheet_X8_within rfl hdS_X8_within ⟨Nat.le_of_ble_eq_true rfl, Nat.le_of_ble_eq_true rfl⟩ ⟨Nat.le_of_ble_eq_true rfl, Nat.le_of_ble_eq_true rfl⟩ hK hP hD [] rfl (by decide) rfl hl.1 rfl (Nat.le_of_ble_eq_true rfl) dX8_sheet_9) hP hD hS hA [] [0] rfl rfl (by decide) (by decide) (fun r_5 w_6 H locs hw_7 hP hD hS => ?_)
  obtain ⟨rfl, rfl⟩ := hw_7
  have hP : va_P D vwCl [(x, .inr (8, [.ref xs, .ref xt, .ref xc, .ref xd, .ref xr, .ref xi, .ref xv, .ref xw, .ref xh, .ref xm, .ref xa, .int 0, .int 0]))] H := hP
  have hD : va_D A [(x, .inr (8, [.ref xs, .ref xt, .ref xc, .ref xd, .ref xr, .ref xi, .ref xv, .ref xw, .ref xh, .ref xm, .ref xa, .int 0, .int 0]))] := hD
  refine lv_if_eq (tgt := 21) S.1 S.2.1 dX8_sheet_12 (by decide) (fun c_8 => absurd c_8 (by decide)) (fun c_8 => ?_)
  refine lv_iload_n S.1 S.2.1 dX8_sheet_15 rfl (lv_at hl 3 rfl) ?_
  refine lv_bipush (v := 40) S.1 S.2.1 dX8_sheet_16 (by decide) ?_
  refine lv_icmp_le (tgt := 24) S.1 S.2.1 dX8_sheet_18 (by decide) (fun c_9 => ?_) (fun c_9 => (by exfalso; have z := c_9; rw [c_le (N := 40) rfl] at z; omega))
  refine lv_iload_n S.1 S.2.1 dX8_sheet_24 rfl (lv_at hl 3 rfl) ?_
  refine lv_if_ge (tgt := 34) S.1 S.2.1 dX8_sheet_25 (by decide) (fun c_10 => (by exfalso; have z := c_10; rw [c_ge (N := 0) rfl] at z; omega)) (fun c_10 => ?_)
  refine lv_aload_n S.1 S.2.1 dX8_sheet_28 rfl (lv_at hl 0 rfl) ?_
  refine lv_iconst (v := 4) S.1 S.2.1 dX8_sheet_29 (by decide) ?_
  refine b_ai (wr := []) (b_runV (q0 := 0) (ci := 8) (As := [.int 4]) (c_X8_found_4 l D cI cZ cC cS sq H.size x xs xt xc xd xr xi xv xw xh xm xa) S gX8_sheet_X8_found rfl hdV_X8_found ⟨Nat.le_of_ble_eq_true rfl, Nat.le_of_ble_eq_true rfl⟩ ⟨Nat.le_of_ble_eq_true rfl, Nat.le_of_ble_eq_true rfl⟩ hK hP hD rfl rfl [0] rfl (by decide) rfl hl.1 rfl (Nat.le_of_ble_eq_true rfl) dX8_sheet_30) hP hD hS hA [0] [] rfl rfl (by decide) (by decide) (fun r_11 w_12 H locs hw_13 hP hD hS => ?_)
  obtain ⟨rfl, rfl⟩ := hw_13
  have hP : va_P D vwCl [(x, .inr (8, [.ref xs, .ref xt, .ref xc, .ref xd, .ref xr, .ref xi, .ref xv, .ref xw, .ref xh, .ref xm, .ref xa, .int 0, .int 4]))] H := hP
  have hD : va_D A [(x, .inr (8, [.ref xs, .ref xt, .ref xc, .ref xd, .ref xr, .ref xi, .ref xv, .ref xw, .ref xh, .ref xm, .ref xa, .int 0, .int 4]))] := hD
  exact b_iret S.1 S.2.1 X.2.1 X.2.2.1 hP hD hS ⟨rfl, rfl⟩ dX8_sheet_33
set_option maxHeartbeats 4000000 in
set_option maxRecDepth 100000 in
theorem c_X8_sheet_ok (l : Launch) (D : va_G) (cI cZ cC cS : ClassId) (sq sz : Nat) (x : Nat) (xs : Nat) (xt : Nat) (xc : Nat) (xd : Nat) (xr : Nat) (xi : Nat) (xv : Nat) (xw : Nat) (xh : Nat) (xm : Nat) (xa : Nat) (gs : Nat → Option Nat) (sh : Nat) (it : Nat) (a : Int32) (b : Int32) (n : Int32) (f : Nat → Int32) (hr : 0 ≤ a.toInt ∧ a.toInt ≤ 7) (hl2 : 0 ≤ b.toInt ∧ b.toInt ≤ 2) (hn : 0 ≤ n.toInt ∧ n.toInt ≤ 40) (hfs : gs a.toNatClampNeg = some sh) : mI l yX8_sheet wsX8_sheet 2 45 D (tyW cI cZ cC cS) sq [(x, .inr (8, [.ref xs, .ref xt, .ref xc, .ref xd, .ref xr, .ref xi, .ref xv, .ref xw, .ref xh, .ref xm, .ref xa, .int 0, .int 0])), (xs, .inl (cS, 8, .inr (.inr (.inr (.inr gs))))), (sh, .inr (4, [.int (-1), .int 0, .ref it])), (it, .inl (cI, 40, .inl f))] sz [.ref x, .int a, .int b, .int n] (fun r w => r = n ∧ w = [(x, .inr (8, [.ref xs, .ref xt, .ref xc, .ref xd, .ref xr, .ref xi, .ref xv, .ref xw, .ref xh, .ref xm, .ref xa, .int 0, .int 0]))]) := by
  refine b_metI (cc := cX8_sheet) (maxL := 4) (ret := (some .int)) (by decide) rfl (Nat.le_of_ble_eq_true rfl) ?_
  intro p e s m below meth c ls A H X hsz hP hK hD hA hS hl
  have S : CallFix p m c cX8_sheet 4 s ([.ref x, .int a, .int b, .int n] : List Value).toArray wsX8_sheet RX8 := X.1
  have hl : lv_has ls 4 [(0, .ref x), (1, .int a), (2, .int b), (3, .int n)] := hl
  have iX8 := jX8_sheet_X8
  refine lv_iload_n S.1 S.2.1 dX8_sheet_0 rfl (lv_at hl 1 rfl) ?_
  refine b_ai (wr := [(x, .inr (8, [.ref xs, .ref xt, .ref xc, .ref xd, .ref xr, .ref xi, .ref xv, .ref xw, .ref xh, .ref xm, .ref xa, .int 0, .int 0])), (xs, .inl (cS, 8, .inr (.inr (.inr (.inr gs))))), (sh, .inr (4, [.int (-1), .int 0, .ref it])), (it, .inl (cI, 40, .inl f))]) (b_runS (As := [.int a]) (c_X8_isSheet_t l D cI cZ cC cS sq H.size a (by assumption)) S gX8_sheet_X8_isSheet rfl hdS_X8_isSheet ⟨Nat.le_of_ble_eq_true rfl, Nat.le_of_ble_eq_true rfl⟩ ⟨Nat.le_of_ble_eq_true rfl, Nat.le_of_ble_eq_true rfl⟩ hK hP hD [] rfl (by decide) rfl hl.1 rfl (Nat.le_of_ble_eq_true rfl) dX8_sheet_1) hP hD hS hA [] [0, 1, 2, 3] rfl rfl (by decide) (by decide) (fun r_1 w_2 H locs hw_3 hP hD hS => ?_)
  obtain ⟨rfl, rfl⟩ := hw_3
  have hP : va_P D vwCl [(x, .inr (8, [.ref xs, .ref xt, .ref xc, .ref xd, .ref xr, .ref xi, .ref xv, .ref xw, .ref xh, .ref xm, .ref xa, .int 0, .int 0])), (xs, .inl (cS, 8, .inr (.inr (.inr (.inr gs))))), (sh, .inr (4, [.int (-1), .int 0, .ref it])), (it, .inl (cI, 40, .inl f))] H := hP
  have hD : va_D A [(x, .inr (8, [.ref xs, .ref xt, .ref xc, .ref xd, .ref xr, .ref xi, .ref xv, .ref xw, .ref xh, .ref xm, .ref xa, .int 0, .int 0])), (xs, .inl (cS, 8, .inr (.inr (.inr (.inr gs))))), (sh, .inr (4, [.int (-1), .int 0, .ref it])), (it, .inl (cI, 40, .inl f))] := hD
  refine lv_if_eq (tgt := 21) S.1 S.2.1 dX8_sheet_4 (by decide) (fun c_4 => absurd c_4 (by decide)) (fun c_4 => ?_)
  refine lv_iload_n S.1 S.2.1 dX8_sheet_7 rfl (lv_at hl 2 rfl) ?_
  refine lv_iconst (v := 3) S.1 S.2.1 dX8_sheet_8 (by decide) ?_
  refine b_ai (wr := [(x, .inr (8, [.ref xs, .ref xt, .ref xc, .ref xd, .ref xr, .ref xi, .ref xv, .ref xw, .ref xh, .ref xm, .ref xa, .int 0, .int 0])), (xs, .inl (cS, 8, .inr (.inr (.inr (.inr gs))))), (sh, .inr (4, [.int (-1), .int 0, .ref it])), (it, .inl (cI, 40, .inl f))]) (b_runS (As := [.int b, .int 3]) (c_X8_within_t l D cI cZ cC cS sq H.size b 3 (by rw [c_lt (N := 0) rfl]; omega) (by rw [c_ge (N := 3) rfl]; omega)) S gX8_sheet_X8_within rfl hdS_X8_within ⟨Nat.le_of_ble_eq_true rfl, Nat.le_of_ble_eq_true rfl⟩ ⟨Nat.le_of_ble_eq_true rfl, Nat.le_of_ble_eq_true rfl⟩ hK hP hD [] rfl (by decide) rfl hl.1 rfl (Nat.le_of_ble_eq_true rfl) dX8_sheet_9) hP hD hS hA [] [0, 1, 2, 3] rfl rfl (by decide) (by decide) (fun r_5 w_6 H locs hw_7 hP hD hS => ?_)
  obtain ⟨rfl, rfl⟩ := hw_7
  have hP : va_P D vwCl [(x, .inr (8, [.ref xs, .ref xt, .ref xc, .ref xd, .ref xr, .ref xi, .ref xv, .ref xw, .ref xh, .ref xm, .ref xa, .int 0, .int 0])), (xs, .inl (cS, 8, .inr (.inr (.inr (.inr gs))))), (sh, .inr (4, [.int (-1), .int 0, .ref it])), (it, .inl (cI, 40, .inl f))] H := hP
  have hD : va_D A [(x, .inr (8, [.ref xs, .ref xt, .ref xc, .ref xd, .ref xr, .ref xi, .ref xv, .ref xw, .ref xh, .ref xm, .ref xa, .int 0, .int 0])), (xs, .inl (cS, 8, .inr (.inr (.inr (.inr gs))))), (sh, .inr (4, [.int (-1), .int 0, .ref it])), (it, .inl (cI, 40, .inl f))] := hD
  refine lv_if_eq (tgt := 21) S.1 S.2.1 dX8_sheet_12 (by decide) (fun c_8 => absurd c_8 (by decide)) (fun c_8 => ?_)
  refine lv_iload_n S.1 S.2.1 dX8_sheet_15 rfl (lv_at hl 3 rfl) ?_
  refine lv_bipush (v := 40) S.1 S.2.1 dX8_sheet_16 (by decide) ?_
  refine lv_icmp_le (tgt := 24) S.1 S.2.1 dX8_sheet_18 (by decide) (fun c_9 => ?_) (fun c_9 => (by exfalso; have z := c_9; rw [c_le (N := 40) rfl] at z; omega))
  refine lv_iload_n S.1 S.2.1 dX8_sheet_24 rfl (lv_at hl 3 rfl) ?_
  refine lv_if_ge (tgt := 34) S.1 S.2.1 dX8_sheet_25 (by decide) (fun c_10 => ?_) (fun c_10 => (by exfalso; have z := c_10; rw [c_ge (N := 0) rfl] at z; omega))
  refine lv_aload_n S.1 S.2.1 dX8_sheet_34 rfl (lv_at hl 0 rfl) ?_
  refine b_get (v := .ref xs) S iX8 hK hP 0 rfl rfl 0 (by decide) (by decide +kernel) rfl dX8_sheet_35 ?_
  refine lv_iload_n S.1 S.2.1 dX8_sheet_38 rfl (lv_at hl 1 rfl) ?_
  refine b_aald S.1 S.2.1 hK.1 hP 1 3 rfl rfl (in_of (n := 8) (by omega) (by omega)) hfs dX8_sheet_39 ?_
  refine lv_iload_n S.1 S.2.1 dX8_sheet_40 rfl (lv_at hl 2 rfl) ?_
  refine lv_iload_n S.1 S.2.1 dX8_sheet_41 rfl (lv_at hl 3 rfl) ?_
  refine b_av (wr := [(x, .inr (8, [.ref xs, .ref xt, .ref xc, .ref xd, .ref xr, .ref xi, .ref xv, .ref xw, .ref xh, .ref xm, .ref xa, .int 0, .int 0])), (xs, .inl (cS, 8, .inr (.inr (.inr (.inr gs)))))]) (b_runV (q0 := 2) (ci := 4) (As := [.int b, .int n]) (c_X4_begin l D cI cZ cC cS sq H.size sh it f b n) S gX8_sheet_X4_begin rfl hdV_X4_begin ⟨Nat.le_of_ble_eq_true rfl, Nat.le_of_ble_eq_true rfl⟩ ⟨Nat.le_of_ble_eq_true rfl, Nat.le_of_ble_eq_true rfl⟩ hK hP hD rfl rfl [2, 3] rfl (by decide) rfl hl.1 rfl (Nat.le_of_ble_eq_true rfl) dX8_sheet_42) hP hD hS hA [2, 3] [0, 1] rfl rfl (by decide) (by decide) (fun w_12 H locs hw_13 hP hD hS => ?_)
  obtain ⟨f2_14, rfl⟩ := hw_13
  have hP : va_P D vwCl [(x, .inr (8, [.ref xs, .ref xt, .ref xc, .ref xd, .ref xr, .ref xi, .ref xv, .ref xw, .ref xh, .ref xm, .ref xa, .int 0, .int 0])), (xs, .inl (cS, 8, .inr (.inr (.inr (.inr gs))))), (sh, .inr (4, [.int b, .int n, .ref it])), (it, .inl (cI, 40, .inl f2_14))] H := hP
  have hD : va_D A [(x, .inr (8, [.ref xs, .ref xt, .ref xc, .ref xd, .ref xr, .ref xi, .ref xv, .ref xw, .ref xh, .ref xm, .ref xa, .int 0, .int 0])), (xs, .inl (cS, 8, .inr (.inr (.inr (.inr gs))))), (sh, .inr (4, [.int b, .int n, .ref it])), (it, .inl (cI, 40, .inl f2_14))] := hD
  refine lv_aload_n S.1 S.2.1 dX8_sheet_45 rfl (lv_at hl 0 rfl) ?_
  refine lv_iload_n S.1 S.2.1 dX8_sheet_46 rfl (lv_at hl 3 rfl) ?_
  refine b_ai (wr := [(xs, .inl (cS, 8, .inr (.inr (.inr (.inr gs))))), (sh, .inr (4, [.int b, .int n, .ref it])), (it, .inl (cI, 40, .inl f2_14))]) (b_runV (q0 := 0) (ci := 8) (As := [.int n]) (c_X8_fine l D cI cZ cC cS sq H.size x xs xt xc xd xr xi xv xw xh xm xa n) S gX8_sheet_X8_fine rfl hdV_X8_fine ⟨Nat.le_of_ble_eq_true rfl, Nat.le_of_ble_eq_true rfl⟩ ⟨Nat.le_of_ble_eq_true rfl, Nat.le_of_ble_eq_true rfl⟩ hK hP hD rfl rfl [0] rfl (by decide) rfl hl.1 rfl (Nat.le_of_ble_eq_true rfl) dX8_sheet_47) hP hD hS hA [0] [1, 2, 3] rfl rfl (by decide) (by decide) (fun r_15 w_16 H locs hw_17 hP hD hS => ?_)
  obtain ⟨er_15, rfl⟩ := hw_17
  rw [er_15]
  have hP : va_P D vwCl [(xs, .inl (cS, 8, .inr (.inr (.inr (.inr gs))))), (sh, .inr (4, [.int b, .int n, .ref it])), (it, .inl (cI, 40, .inl f2_14)), (x, .inr (8, [.ref xs, .ref xt, .ref xc, .ref xd, .ref xr, .ref xi, .ref xv, .ref xw, .ref xh, .ref xm, .ref xa, .int 0, .int 0]))] H := hP
  have hD : va_D A [(xs, .inl (cS, 8, .inr (.inr (.inr (.inr gs))))), (sh, .inr (4, [.int b, .int n, .ref it])), (it, .inl (cI, 40, .inl f2_14)), (x, .inr (8, [.ref xs, .ref xt, .ref xc, .ref xd, .ref xr, .ref xi, .ref xv, .ref xw, .ref xh, .ref xm, .ref xa, .int 0, .int 0]))] := hD
  have hP := hP.sub (ws' := [(x, .inr (8, [.ref xs, .ref xt, .ref xc, .ref xd, .ref xr, .ref xi, .ref xv, .ref xw, .ref xh, .ref xm, .ref xa, .int 0, .int 0]))]) [3] rfl
  have hD := hD.sub (ws' := [(x, .inr (8, [.ref xs, .ref xt, .ref xc, .ref xd, .ref xr, .ref xi, .ref xv, .ref xw, .ref xh, .ref xm, .ref xa, .int 0, .int 0]))]) [3] (by decide) rfl
  exact b_iret S.1 S.2.1 X.2.1 X.2.2.1 hP hD hS ⟨rfl, rfl⟩ dX8_sheet_50
set_option maxHeartbeats 4000000 in
set_option maxRecDepth 100000 in
theorem c_X8_feed_lo (l : Launch) (D : va_G) (cI cZ cC cS : ClassId) (sq sz : Nat) (x : Nat) (xs : Nat) (xt : Nat) (xc : Nat) (xd : Nat) (xr : Nat) (xi : Nat) (xv : Nat) (xw : Nat) (xh : Nat) (xm : Nat) (xa : Nat) (wv : Int64) (n : Int32) (hn : n.toInt < 1) : mI l yX8_feed wsX8_feed 0 0 D (tyW cI cZ cC cS) sq [(x, .inr (8, [.ref xs, .ref xt, .ref xc, .ref xd, .ref xr, .ref xi, .ref xv, .ref xw, .ref xh, .ref xm, .ref xa, .int 0, .int 0]))] sz [.ref x, .long wv, .int n] (fun r w => r = -1000001 ∧ w = [(x, .inr (8, [.ref xs, .ref xt, .ref xc, .ref xd, .ref xr, .ref xi, .ref xv, .ref xw, .ref xh, .ref xm, .ref xa, .int 0, .int 0]))]) := by
  refine b_metI (cc := cX8_feed) (maxL := 4) (ret := (some .int)) (by decide) rfl (Nat.le_of_ble_eq_true rfl) ?_
  intro p e s m below meth c ls A H X hsz hP hK hD hA hS hl
  have S : CallFix p m c cX8_feed 4 s ([.ref x, .long wv, .int n] : List Value).toArray wsX8_feed RX8 := X.1
  have hl : lv_has ls 4 [(0, .ref x), (1, .long wv), (3, .int n)] := hl
  refine lv_iload_n S.1 S.2.1 dX8_feed_0 rfl (lv_at hl 2 rfl) ?_
  refine lv_iconst (v := 1) S.1 S.2.1 dX8_feed_1 (by decide) ?_
  refine lv_icmp_lt (tgt := 11) S.1 S.2.1 dX8_feed_2 (by decide) (fun c_1 => ?_) (fun c_1 => (by exfalso; have z := c_1; rw [c_lt (N := 1) rfl] at z; omega))
  refine lv_ldc (v := (-1000001)) S.1 S.2.1 S.2.2.2.1 (S.2.2.2.2 (.constant RX8 98 (-1000001)) (by decide +kernel)) dX8_feed_11 ?_
  exact b_iret S.1 S.2.1 X.2.1 X.2.2.1 hP hD hS ⟨rfl, rfl⟩ dX8_feed_13
set_option maxHeartbeats 4000000 in
set_option maxRecDepth 100000 in
theorem c_X8_feed_hi (l : Launch) (D : va_G) (cI cZ cC cS : ClassId) (sq sz : Nat) (x : Nat) (xs : Nat) (xt : Nat) (xc : Nat) (xd : Nat) (xr : Nat) (xi : Nat) (xv : Nat) (xw : Nat) (xh : Nat) (xm : Nat) (xa : Nat) (wv : Int64) (n : Int32) (hn : 8 < n.toInt) : mI l yX8_feed wsX8_feed 0 0 D (tyW cI cZ cC cS) sq [(x, .inr (8, [.ref xs, .ref xt, .ref xc, .ref xd, .ref xr, .ref xi, .ref xv, .ref xw, .ref xh, .ref xm, .ref xa, .int 0, .int 0]))] sz [.ref x, .long wv, .int n] (fun r w => r = -1000001 ∧ w = [(x, .inr (8, [.ref xs, .ref xt, .ref xc, .ref xd, .ref xr, .ref xi, .ref xv, .ref xw, .ref xh, .ref xm, .ref xa, .int 0, .int 0]))]) := by
  refine b_metI (cc := cX8_feed) (maxL := 4) (ret := (some .int)) (by decide) rfl (Nat.le_of_ble_eq_true rfl) ?_
  intro p e s m below meth c ls A H X hsz hP hK hD hA hS hl
  have S : CallFix p m c cX8_feed 4 s ([.ref x, .long wv, .int n] : List Value).toArray wsX8_feed RX8 := X.1
  have hl : lv_has ls 4 [(0, .ref x), (1, .long wv), (3, .int n)] := hl
  refine lv_iload_n S.1 S.2.1 dX8_feed_0 rfl (lv_at hl 2 rfl) ?_
  refine lv_iconst (v := 1) S.1 S.2.1 dX8_feed_1 (by decide) ?_
  refine lv_icmp_lt (tgt := 11) S.1 S.2.1 dX8_feed_2 (by decide) (fun c_1 => (by exfalso; have z := c_1; rw [c_lt (N := 1) rfl] at z; omega)) (fun c_1 => ?_)
  refine lv_iload_n S.1 S.2.1 dX8_feed_5 rfl (lv_at hl 2 rfl) ?_
  refine lv_bipush (v := 8) S.1 S.2.1 dX8_feed_6 (by decide) ?_
  refine lv_icmp_le (tgt := 14) S.1 S.2.1 dX8_feed_8 (by decide) (fun c_2 => (by exfalso; have z := c_2; rw [c_le (N := 8) rfl] at z; omega)) (fun c_2 => ?_)
  refine lv_ldc (v := (-1000001)) S.1 S.2.1 S.2.2.2.1 (S.2.2.2.2 (.constant RX8 98 (-1000001)) (by decide +kernel)) dX8_feed_11 ?_
  exact b_iret S.1 S.2.1 X.2.1 X.2.2.1 hP hD hS ⟨rfl, rfl⟩ dX8_feed_13
set_option maxHeartbeats 4000000 in
set_option maxRecDepth 100000 in
theorem c_X8_feed_1 (l : Launch) (D : va_G) (cI cZ cC cS : ClassId) (sq sz : Nat) (x : Nat) (xs : Nat) (xt : Nat) (xc : Nat) (xd : Nat) (xr : Nat) (xi : Nat) (xv : Nat) (xw : Nat) (xh : Nat) (xm : Nat) (xa : Nat) (by_ : Nat) (f : Nat → Int32) (wv : Int64) : mI l yX8_feed wsX8_feed 1 24 D (tyW cI cZ cC cS) sq [(x, .inr (8, [.ref xs, .ref xt, .ref xc, .ref xd, .ref xr, .ref xi, .ref xv, .ref xw, .ref xh, .ref xm, .ref xa, .int 0, .int 0])), (xt, .inr (5, [.ref by_, .int 0, .int 0, .int 0, .int 0, .int 0])), (by_, .inl (cI, 400, .inl f))] sz [.ref x, .long wv, .int 1] (fun r w => r = 1 ∧ w = [(x, .inr (8, [.ref xs, .ref xt, .ref xc, .ref xd, .ref xr, .ref xi, .ref xv, .ref xw, .ref xh, .ref xm, .ref xa, .int 0, .int 0]))]) := by
  refine b_metI (cc := cX8_feed) (maxL := 4) (ret := (some .int)) (by decide) rfl (Nat.le_of_ble_eq_true rfl) ?_
  intro p e s m below meth c ls A H X hsz hP hK hD hA hS hl
  have S : CallFix p m c cX8_feed 4 s ([.ref x, .long wv, .int 1] : List Value).toArray wsX8_feed RX8 := X.1
  have hl : lv_has ls 4 [(0, .ref x), (1, .long wv), (3, .int 1)] := hl
  have iX5 := jX8_feed_X5
  have iX8 := jX8_feed_X8
  refine lv_iload_n S.1 S.2.1 dX8_feed_0 rfl (lv_at hl 2 rfl) ?_
  refine lv_iconst (v := 1) S.1 S.2.1 dX8_feed_1 (by decide) ?_
  refine lv_icmp_lt (tgt := 11) S.1 S.2.1 dX8_feed_2 (by decide) (fun c_1 => absurd c_1 (by decide)) (fun c_1 => ?_)
  refine lv_iload_n S.1 S.2.1 dX8_feed_5 rfl (lv_at hl 2 rfl) ?_
  refine lv_bipush (v := 8) S.1 S.2.1 dX8_feed_6 (by decide) ?_
  refine lv_icmp_le (tgt := 14) S.1 S.2.1 dX8_feed_8 (by decide) (fun c_2 => ?_) (fun c_2 => absurd c_2 (by decide))
  refine lv_aload_n S.1 S.2.1 dX8_feed_14 rfl (lv_at hl 0 rfl) ?_
  refine b_get (v := .ref xt) S iX8 hK hP 0 rfl rfl 1 (by decide) (by decide +kernel) rfl dX8_feed_15 ?_
  refine lv_iload_n S.1 S.2.1 dX8_feed_18 rfl (lv_at hl 2 rfl) ?_
  refine b_ai (wr := [(x, .inr (8, [.ref xs, .ref xt, .ref xc, .ref xd, .ref xr, .ref xi, .ref xv, .ref xw, .ref xh, .ref xm, .ref xa, .int 0, .int 0])), (by_, .inl (cI, 400, .inl f))]) (b_runV (q0 := 1) (ci := 5) (As := [.int 1]) (c_X5_hasRoom l D cI cZ cC cS sq H.size xt by_ 1 (by decide)) S gX8_feed_X5_hasRoom rfl hdV_X5_hasRoom ⟨Nat.le_of_ble_eq_true rfl, Nat.le_of_ble_eq_true rfl⟩ ⟨Nat.le_of_ble_eq_true rfl, Nat.le_of_ble_eq_true rfl⟩ hK hP hD rfl rfl [1] rfl (by decide) rfl hl.1 rfl (Nat.le_of_ble_eq_true rfl) dX8_feed_19) hP hD hS hA [1] [0, 2] rfl rfl (by decide) (by decide) (fun r_3 w_4 H locs hw_5 hP hD hS => ?_)
  obtain ⟨rfl, rfl⟩ := hw_5
  have hP : va_P D vwCl [(x, .inr (8, [.ref xs, .ref xt, .ref xc, .ref xd, .ref xr, .ref xi, .ref xv, .ref xw, .ref xh, .ref xm, .ref xa, .int 0, .int 0])), (by_, .inl (cI, 400, .inl f)), (xt, .inr (5, [.ref by_, .int 0, .int 0, .int 0, .int 0, .int 0]))] H := hP
  have hD : va_D A [(x, .inr (8, [.ref xs, .ref xt, .ref xc, .ref xd, .ref xr, .ref xi, .ref xv, .ref xw, .ref xh, .ref xm, .ref xa, .int 0, .int 0])), (by_, .inl (cI, 400, .inl f)), (xt, .inr (5, [.ref by_, .int 0, .int 0, .int 0, .int 0, .int 0]))] := hD
  refine lv_if_ne (tgt := 28) S.1 S.2.1 dX8_feed_22 (by decide) (fun c_6 => ?_) (fun c_6 => absurd c_6 (by decide))
  refine lv_aload_n S.1 S.2.1 dX8_feed_28 rfl (lv_at hl 0 rfl) ?_
  refine b_get (v := .ref xt) S iX8 hK hP 0 rfl rfl 1 (by decide) (by decide +kernel) rfl dX8_feed_29 ?_
  refine lv_lload_n S.1 S.2.1 dX8_feed_32 rfl (lv_at hl 1 rfl) ?_
  refine lv_iload_n S.1 S.2.1 dX8_feed_33 rfl (lv_at hl 2 rfl) ?_
  refine b_av (wr := [(x, .inr (8, [.ref xs, .ref xt, .ref xc, .ref xd, .ref xr, .ref xi, .ref xv, .ref xw, .ref xh, .ref xm, .ref xa, .int 0, .int 0]))]) (b_runV (q0 := 2) (ci := 5) (As := [.long wv, .int 1]) (c_X5_append_1 l D cI cZ cC cS sq H.size xt by_ f wv) S gX8_feed_X5_append rfl hdV_X5_append ⟨Nat.le_of_ble_eq_true rfl, Nat.le_of_ble_eq_true rfl⟩ ⟨Nat.le_of_ble_eq_true rfl, Nat.le_of_ble_eq_true rfl⟩ hK hP hD rfl rfl [2, 1] rfl (by decide) rfl hl.1 rfl (Nat.le_of_ble_eq_true rfl) dX8_feed_34) hP hD hS hA [2, 1] [0] rfl rfl (by decide) (by decide) (fun w_8 H locs hw_9 hP hD hS => ?_)
  subst hw_9
  have hP : va_P D vwCl [(x, .inr (8, [.ref xs, .ref xt, .ref xc, .ref xd, .ref xr, .ref xi, .ref xv, .ref xw, .ref xh, .ref xm, .ref xa, .int 0, .int 0])), (xt, .inr (5, [.ref by_, .int 1, .int 0, .int 0, .int 0, .int 0]))] H := hP
  have hD : va_D A [(x, .inr (8, [.ref xs, .ref xt, .ref xc, .ref xd, .ref xr, .ref xi, .ref xv, .ref xw, .ref xh, .ref xm, .ref xa, .int 0, .int 0])), (xt, .inr (5, [.ref by_, .int 1, .int 0, .int 0, .int 0, .int 0]))] := hD
  refine lv_aload_n S.1 S.2.1 dX8_feed_37 rfl (lv_at hl 0 rfl) ?_
  refine b_get (v := .ref xt) S iX8 hK hP 0 rfl rfl 1 (by decide) (by decide +kernel) rfl dX8_feed_38 ?_
  refine b_get (v := .int 1) S iX5 hK hP 1 rfl rfl 1 (by decide) (by decide +kernel) rfl dX8_feed_41 ?_
  have hP := hP.sub (ws' := [(x, .inr (8, [.ref xs, .ref xt, .ref xc, .ref xd, .ref xr, .ref xi, .ref xv, .ref xw, .ref xh, .ref xm, .ref xa, .int 0, .int 0]))]) [0] rfl
  have hD := hD.sub (ws' := [(x, .inr (8, [.ref xs, .ref xt, .ref xc, .ref xd, .ref xr, .ref xi, .ref xv, .ref xw, .ref xh, .ref xm, .ref xa, .int 0, .int 0]))]) [0] (by decide) rfl
  exact b_iret S.1 S.2.1 X.2.1 X.2.2.1 hP hD hS ⟨rfl, rfl⟩ dX8_feed_44
set_option maxHeartbeats 4000000 in
set_option maxRecDepth 100000 in
theorem c_X8_feed_2 (l : Launch) (D : va_G) (cI cZ cC cS : ClassId) (sq sz : Nat) (x : Nat) (xs : Nat) (xt : Nat) (xc : Nat) (xd : Nat) (xr : Nat) (xi : Nat) (xv : Nat) (xw : Nat) (xh : Nat) (xm : Nat) (xa : Nat) (by_ : Nat) (f : Nat → Int32) (wv : Int64) : mI l yX8_feed wsX8_feed 1 24 D (tyW cI cZ cC cS) sq [(x, .inr (8, [.ref xs, .ref xt, .ref xc, .ref xd, .ref xr, .ref xi, .ref xv, .ref xw, .ref xh, .ref xm, .ref xa, .int 0, .int 0])), (xt, .inr (5, [.ref by_, .int 0, .int 0, .int 0, .int 0, .int 0])), (by_, .inl (cI, 400, .inl f))] sz [.ref x, .long wv, .int 2] (fun r w => r = 2 ∧ w = [(x, .inr (8, [.ref xs, .ref xt, .ref xc, .ref xd, .ref xr, .ref xi, .ref xv, .ref xw, .ref xh, .ref xm, .ref xa, .int 0, .int 0]))]) := by
  refine b_metI (cc := cX8_feed) (maxL := 4) (ret := (some .int)) (by decide) rfl (Nat.le_of_ble_eq_true rfl) ?_
  intro p e s m below meth c ls A H X hsz hP hK hD hA hS hl
  have S : CallFix p m c cX8_feed 4 s ([.ref x, .long wv, .int 2] : List Value).toArray wsX8_feed RX8 := X.1
  have hl : lv_has ls 4 [(0, .ref x), (1, .long wv), (3, .int 2)] := hl
  have iX5 := jX8_feed_X5
  have iX8 := jX8_feed_X8
  refine lv_iload_n S.1 S.2.1 dX8_feed_0 rfl (lv_at hl 2 rfl) ?_
  refine lv_iconst (v := 1) S.1 S.2.1 dX8_feed_1 (by decide) ?_
  refine lv_icmp_lt (tgt := 11) S.1 S.2.1 dX8_feed_2 (by decide) (fun c_1 => absurd c_1 (by decide)) (fun c_1 => ?_)
  refine lv_iload_n S.1 S.2.1 dX8_feed_5 rfl (lv_at hl 2 rfl) ?_
  refine lv_bipush (v := 8) S.1 S.2.1 dX8_feed_6 (by decide) ?_
  refine lv_icmp_le (tgt := 14) S.1 S.2.1 dX8_feed_8 (by decide) (fun c_2 => ?_) (fun c_2 => absurd c_2 (by decide))
  refine lv_aload_n S.1 S.2.1 dX8_feed_14 rfl (lv_at hl 0 rfl) ?_
  refine b_get (v := .ref xt) S iX8 hK hP 0 rfl rfl 1 (by decide) (by decide +kernel) rfl dX8_feed_15 ?_
  refine lv_iload_n S.1 S.2.1 dX8_feed_18 rfl (lv_at hl 2 rfl) ?_
  refine b_ai (wr := [(x, .inr (8, [.ref xs, .ref xt, .ref xc, .ref xd, .ref xr, .ref xi, .ref xv, .ref xw, .ref xh, .ref xm, .ref xa, .int 0, .int 0])), (by_, .inl (cI, 400, .inl f))]) (b_runV (q0 := 1) (ci := 5) (As := [.int 2]) (c_X5_hasRoom l D cI cZ cC cS sq H.size xt by_ 2 (by decide)) S gX8_feed_X5_hasRoom rfl hdV_X5_hasRoom ⟨Nat.le_of_ble_eq_true rfl, Nat.le_of_ble_eq_true rfl⟩ ⟨Nat.le_of_ble_eq_true rfl, Nat.le_of_ble_eq_true rfl⟩ hK hP hD rfl rfl [1] rfl (by decide) rfl hl.1 rfl (Nat.le_of_ble_eq_true rfl) dX8_feed_19) hP hD hS hA [1] [0, 2] rfl rfl (by decide) (by decide) (fun r_3 w_4 H locs hw_5 hP hD hS => ?_)
  obtain ⟨rfl, rfl⟩ := hw_5
  have hP : va_P D vwCl [(x, .inr (8, [.ref xs, .ref xt, .ref xc, .ref xd, .ref xr, .ref xi, .ref xv, .ref xw, .ref xh, .ref xm, .ref xa, .int 0, .int 0])), (by_, .inl (cI, 400, .inl f)), (xt, .inr (5, [.ref by_, .int 0, .int 0, .int 0, .int 0, .int 0]))] H := hP
  have hD : va_D A [(x, .inr (8, [.ref xs, .ref xt, .ref xc, .ref xd, .ref xr, .ref xi, .ref xv, .ref xw, .ref xh, .ref xm, .ref xa, .int 0, .int 0])), (by_, .inl (cI, 400, .inl f)), (xt, .inr (5, [.ref by_, .int 0, .int 0, .int 0, .int 0, .int 0]))] := hD
  refine lv_if_ne (tgt := 28) S.1 S.2.1 dX8_feed_22 (by decide) (fun c_6 => ?_) (fun c_6 => absurd c_6 (by decide))
  refine lv_aload_n S.1 S.2.1 dX8_feed_28 rfl (lv_at hl 0 rfl) ?_
  refine b_get (v := .ref xt) S iX8 hK hP 0 rfl rfl 1 (by decide) (by decide +kernel) rfl dX8_feed_29 ?_
  refine lv_lload_n S.1 S.2.1 dX8_feed_32 rfl (lv_at hl 1 rfl) ?_
  refine lv_iload_n S.1 S.2.1 dX8_feed_33 rfl (lv_at hl 2 rfl) ?_
  refine b_av (wr := [(x, .inr (8, [.ref xs, .ref xt, .ref xc, .ref xd, .ref xr, .ref xi, .ref xv, .ref xw, .ref xh, .ref xm, .ref xa, .int 0, .int 0]))]) (b_runV (q0 := 2) (ci := 5) (As := [.long wv, .int 2]) (c_X5_append_2 l D cI cZ cC cS sq H.size xt by_ f wv) S gX8_feed_X5_append rfl hdV_X5_append ⟨Nat.le_of_ble_eq_true rfl, Nat.le_of_ble_eq_true rfl⟩ ⟨Nat.le_of_ble_eq_true rfl, Nat.le_of_ble_eq_true rfl⟩ hK hP hD rfl rfl [2, 1] rfl (by decide) rfl hl.1 rfl (Nat.le_of_ble_eq_true rfl) dX8_feed_34) hP hD hS hA [2, 1] [0] rfl rfl (by decide) (by decide) (fun w_8 H locs hw_9 hP hD hS => ?_)
  subst hw_9
  have hP : va_P D vwCl [(x, .inr (8, [.ref xs, .ref xt, .ref xc, .ref xd, .ref xr, .ref xi, .ref xv, .ref xw, .ref xh, .ref xm, .ref xa, .int 0, .int 0])), (xt, .inr (5, [.ref by_, .int 2, .int 0, .int 0, .int 0, .int 0]))] H := hP
  have hD : va_D A [(x, .inr (8, [.ref xs, .ref xt, .ref xc, .ref xd, .ref xr, .ref xi, .ref xv, .ref xw, .ref xh, .ref xm, .ref xa, .int 0, .int 0])), (xt, .inr (5, [.ref by_, .int 2, .int 0, .int 0, .int 0, .int 0]))] := hD
  refine lv_aload_n S.1 S.2.1 dX8_feed_37 rfl (lv_at hl 0 rfl) ?_
  refine b_get (v := .ref xt) S iX8 hK hP 0 rfl rfl 1 (by decide) (by decide +kernel) rfl dX8_feed_38 ?_
  refine b_get (v := .int 2) S iX5 hK hP 1 rfl rfl 1 (by decide) (by decide +kernel) rfl dX8_feed_41 ?_
  have hP := hP.sub (ws' := [(x, .inr (8, [.ref xs, .ref xt, .ref xc, .ref xd, .ref xr, .ref xi, .ref xv, .ref xw, .ref xh, .ref xm, .ref xa, .int 0, .int 0]))]) [0] rfl
  have hD := hD.sub (ws' := [(x, .inr (8, [.ref xs, .ref xt, .ref xc, .ref xd, .ref xr, .ref xi, .ref xv, .ref xw, .ref xh, .ref xm, .ref xa, .int 0, .int 0]))]) [0] (by decide) rfl
  exact b_iret S.1 S.2.1 X.2.1 X.2.2.1 hP hD hS ⟨rfl, rfl⟩ dX8_feed_44
set_option maxHeartbeats 4000000 in
set_option maxRecDepth 100000 in
theorem c_X8_feed_3 (l : Launch) (D : va_G) (cI cZ cC cS : ClassId) (sq sz : Nat) (x : Nat) (xs : Nat) (xt : Nat) (xc : Nat) (xd : Nat) (xr : Nat) (xi : Nat) (xv : Nat) (xw : Nat) (xh : Nat) (xm : Nat) (xa : Nat) (by_ : Nat) (f : Nat → Int32) (wv : Int64) : mI l yX8_feed wsX8_feed 1 24 D (tyW cI cZ cC cS) sq [(x, .inr (8, [.ref xs, .ref xt, .ref xc, .ref xd, .ref xr, .ref xi, .ref xv, .ref xw, .ref xh, .ref xm, .ref xa, .int 0, .int 0])), (xt, .inr (5, [.ref by_, .int 0, .int 0, .int 0, .int 0, .int 0])), (by_, .inl (cI, 400, .inl f))] sz [.ref x, .long wv, .int 3] (fun r w => r = 3 ∧ w = [(x, .inr (8, [.ref xs, .ref xt, .ref xc, .ref xd, .ref xr, .ref xi, .ref xv, .ref xw, .ref xh, .ref xm, .ref xa, .int 0, .int 0]))]) := by
  refine b_metI (cc := cX8_feed) (maxL := 4) (ret := (some .int)) (by decide) rfl (Nat.le_of_ble_eq_true rfl) ?_
  intro p e s m below meth c ls A H X hsz hP hK hD hA hS hl
  have S : CallFix p m c cX8_feed 4 s ([.ref x, .long wv, .int 3] : List Value).toArray wsX8_feed RX8 := X.1
  have hl : lv_has ls 4 [(0, .ref x), (1, .long wv), (3, .int 3)] := hl
  have iX5 := jX8_feed_X5
  have iX8 := jX8_feed_X8
  refine lv_iload_n S.1 S.2.1 dX8_feed_0 rfl (lv_at hl 2 rfl) ?_
  refine lv_iconst (v := 1) S.1 S.2.1 dX8_feed_1 (by decide) ?_
  refine lv_icmp_lt (tgt := 11) S.1 S.2.1 dX8_feed_2 (by decide) (fun c_1 => absurd c_1 (by decide)) (fun c_1 => ?_)
  refine lv_iload_n S.1 S.2.1 dX8_feed_5 rfl (lv_at hl 2 rfl) ?_
  refine lv_bipush (v := 8) S.1 S.2.1 dX8_feed_6 (by decide) ?_
  refine lv_icmp_le (tgt := 14) S.1 S.2.1 dX8_feed_8 (by decide) (fun c_2 => ?_) (fun c_2 => absurd c_2 (by decide))
  refine lv_aload_n S.1 S.2.1 dX8_feed_14 rfl (lv_at hl 0 rfl) ?_
  refine b_get (v := .ref xt) S iX8 hK hP 0 rfl rfl 1 (by decide) (by decide +kernel) rfl dX8_feed_15 ?_
  refine lv_iload_n S.1 S.2.1 dX8_feed_18 rfl (lv_at hl 2 rfl) ?_
  refine b_ai (wr := [(x, .inr (8, [.ref xs, .ref xt, .ref xc, .ref xd, .ref xr, .ref xi, .ref xv, .ref xw, .ref xh, .ref xm, .ref xa, .int 0, .int 0])), (by_, .inl (cI, 400, .inl f))]) (b_runV (q0 := 1) (ci := 5) (As := [.int 3]) (c_X5_hasRoom l D cI cZ cC cS sq H.size xt by_ 3 (by decide)) S gX8_feed_X5_hasRoom rfl hdV_X5_hasRoom ⟨Nat.le_of_ble_eq_true rfl, Nat.le_of_ble_eq_true rfl⟩ ⟨Nat.le_of_ble_eq_true rfl, Nat.le_of_ble_eq_true rfl⟩ hK hP hD rfl rfl [1] rfl (by decide) rfl hl.1 rfl (Nat.le_of_ble_eq_true rfl) dX8_feed_19) hP hD hS hA [1] [0, 2] rfl rfl (by decide) (by decide) (fun r_3 w_4 H locs hw_5 hP hD hS => ?_)
  obtain ⟨rfl, rfl⟩ := hw_5
  have hP : va_P D vwCl [(x, .inr (8, [.ref xs, .ref xt, .ref xc, .ref xd, .ref xr, .ref xi, .ref xv, .ref xw, .ref xh, .ref xm, .ref xa, .int 0, .int 0])), (by_, .inl (cI, 400, .inl f)), (xt, .inr (5, [.ref by_, .int 0, .int 0, .int 0, .int 0, .int 0]))] H := hP
  have hD : va_D A [(x, .inr (8, [.ref xs, .ref xt, .ref xc, .ref xd, .ref xr, .ref xi, .ref xv, .ref xw, .ref xh, .ref xm, .ref xa, .int 0, .int 0])), (by_, .inl (cI, 400, .inl f)), (xt, .inr (5, [.ref by_, .int 0, .int 0, .int 0, .int 0, .int 0]))] := hD
  refine lv_if_ne (tgt := 28) S.1 S.2.1 dX8_feed_22 (by decide) (fun c_6 => ?_) (fun c_6 => absurd c_6 (by decide))
  refine lv_aload_n S.1 S.2.1 dX8_feed_28 rfl (lv_at hl 0 rfl) ?_
  refine b_get (v := .ref xt) S iX8 hK hP 0 rfl rfl 1 (by decide) (by decide +kernel) rfl dX8_feed_29 ?_
  refine lv_lload_n S.1 S.2.1 dX8_feed_32 rfl (lv_at hl 1 rfl) ?_
  refine lv_iload_n S.1 S.2.1 dX8_feed_33 rfl (lv_at hl 2 rfl) ?_
  refine b_av (wr := [(x, .inr (8, [.ref xs, .ref xt, .ref xc, .ref xd, .ref xr, .ref xi, .ref xv, .ref xw, .ref xh, .ref xm, .ref xa, .int 0, .int 0]))]) (b_runV (q0 := 2) (ci := 5) (As := [.long wv, .int 3]) (c_X5_append_3 l D cI cZ cC cS sq H.size xt by_ f wv) S gX8_feed_X5_append rfl hdV_X5_append ⟨Nat.le_of_ble_eq_true rfl, Nat.le_of_ble_eq_true rfl⟩ ⟨Nat.le_of_ble_eq_true rfl, Nat.le_of_ble_eq_true rfl⟩ hK hP hD rfl rfl [2, 1] rfl (by decide) rfl hl.1 rfl (Nat.le_of_ble_eq_true rfl) dX8_feed_34) hP hD hS hA [2, 1] [0] rfl rfl (by decide) (by decide) (fun w_8 H locs hw_9 hP hD hS => ?_)
  subst hw_9
  have hP : va_P D vwCl [(x, .inr (8, [.ref xs, .ref xt, .ref xc, .ref xd, .ref xr, .ref xi, .ref xv, .ref xw, .ref xh, .ref xm, .ref xa, .int 0, .int 0])), (xt, .inr (5, [.ref by_, .int 3, .int 0, .int 0, .int 0, .int 0]))] H := hP
  have hD : va_D A [(x, .inr (8, [.ref xs, .ref xt, .ref xc, .ref xd, .ref xr, .ref xi, .ref xv, .ref xw, .ref xh, .ref xm, .ref xa, .int 0, .int 0])), (xt, .inr (5, [.ref by_, .int 3, .int 0, .int 0, .int 0, .int 0]))] := hD
  refine lv_aload_n S.1 S.2.1 dX8_feed_37 rfl (lv_at hl 0 rfl) ?_
  refine b_get (v := .ref xt) S iX8 hK hP 0 rfl rfl 1 (by decide) (by decide +kernel) rfl dX8_feed_38 ?_
  refine b_get (v := .int 3) S iX5 hK hP 1 rfl rfl 1 (by decide) (by decide +kernel) rfl dX8_feed_41 ?_
  have hP := hP.sub (ws' := [(x, .inr (8, [.ref xs, .ref xt, .ref xc, .ref xd, .ref xr, .ref xi, .ref xv, .ref xw, .ref xh, .ref xm, .ref xa, .int 0, .int 0]))]) [0] rfl
  have hD := hD.sub (ws' := [(x, .inr (8, [.ref xs, .ref xt, .ref xc, .ref xd, .ref xr, .ref xi, .ref xv, .ref xw, .ref xh, .ref xm, .ref xa, .int 0, .int 0]))]) [0] (by decide) rfl
  exact b_iret S.1 S.2.1 X.2.1 X.2.2.1 hP hD hS ⟨rfl, rfl⟩ dX8_feed_44
set_option maxHeartbeats 4000000 in
set_option maxRecDepth 100000 in
theorem c_X8_feed_4 (l : Launch) (D : va_G) (cI cZ cC cS : ClassId) (sq sz : Nat) (x : Nat) (xs : Nat) (xt : Nat) (xc : Nat) (xd : Nat) (xr : Nat) (xi : Nat) (xv : Nat) (xw : Nat) (xh : Nat) (xm : Nat) (xa : Nat) (by_ : Nat) (f : Nat → Int32) (wv : Int64) : mI l yX8_feed wsX8_feed 1 24 D (tyW cI cZ cC cS) sq [(x, .inr (8, [.ref xs, .ref xt, .ref xc, .ref xd, .ref xr, .ref xi, .ref xv, .ref xw, .ref xh, .ref xm, .ref xa, .int 0, .int 0])), (xt, .inr (5, [.ref by_, .int 0, .int 0, .int 0, .int 0, .int 0])), (by_, .inl (cI, 400, .inl f))] sz [.ref x, .long wv, .int 4] (fun r w => r = 4 ∧ w = [(x, .inr (8, [.ref xs, .ref xt, .ref xc, .ref xd, .ref xr, .ref xi, .ref xv, .ref xw, .ref xh, .ref xm, .ref xa, .int 0, .int 0]))]) := by
  refine b_metI (cc := cX8_feed) (maxL := 4) (ret := (some .int)) (by decide) rfl (Nat.le_of_ble_eq_true rfl) ?_
  intro p e s m below meth c ls A H X hsz hP hK hD hA hS hl
  have S : CallFix p m c cX8_feed 4 s ([.ref x, .long wv, .int 4] : List Value).toArray wsX8_feed RX8 := X.1
  have hl : lv_has ls 4 [(0, .ref x), (1, .long wv), (3, .int 4)] := hl
  have iX5 := jX8_feed_X5
  have iX8 := jX8_feed_X8
  refine lv_iload_n S.1 S.2.1 dX8_feed_0 rfl (lv_at hl 2 rfl) ?_
  refine lv_iconst (v := 1) S.1 S.2.1 dX8_feed_1 (by decide) ?_
  refine lv_icmp_lt (tgt := 11) S.1 S.2.1 dX8_feed_2 (by decide) (fun c_1 => absurd c_1 (by decide)) (fun c_1 => ?_)
  refine lv_iload_n S.1 S.2.1 dX8_feed_5 rfl (lv_at hl 2 rfl) ?_
  refine lv_bipush (v := 8) S.1 S.2.1 dX8_feed_6 (by decide) ?_
  refine lv_icmp_le (tgt := 14) S.1 S.2.1 dX8_feed_8 (by decide) (fun c_2 => ?_) (fun c_2 => absurd c_2 (by decide))
  refine lv_aload_n S.1 S.2.1 dX8_feed_14 rfl (lv_at hl 0 rfl) ?_
  refine b_get (v := .ref xt) S iX8 hK hP 0 rfl rfl 1 (by decide) (by decide +kernel) rfl dX8_feed_15 ?_
  refine lv_iload_n S.1 S.2.1 dX8_feed_18 rfl (lv_at hl 2 rfl) ?_
  refine b_ai (wr := [(x, .inr (8, [.ref xs, .ref xt, .ref xc, .ref xd, .ref xr, .ref xi, .ref xv, .ref xw, .ref xh, .ref xm, .ref xa, .int 0, .int 0])), (by_, .inl (cI, 400, .inl f))]) (b_runV (q0 := 1) (ci := 5) (As := [.int 4]) (c_X5_hasRoom l D cI cZ cC cS sq H.size xt by_ 4 (by decide)) S gX8_feed_X5_hasRoom rfl hdV_X5_hasRoom ⟨Nat.le_of_ble_eq_true rfl, Nat.le_of_ble_eq_true rfl⟩ ⟨Nat.le_of_ble_eq_true rfl, Nat.le_of_ble_eq_true rfl⟩ hK hP hD rfl rfl [1] rfl (by decide) rfl hl.1 rfl (Nat.le_of_ble_eq_true rfl) dX8_feed_19) hP hD hS hA [1] [0, 2] rfl rfl (by decide) (by decide) (fun r_3 w_4 H locs hw_5 hP hD hS => ?_)
  obtain ⟨rfl, rfl⟩ := hw_5
  have hP : va_P D vwCl [(x, .inr (8, [.ref xs, .ref xt, .ref xc, .ref xd, .ref xr, .ref xi, .ref xv, .ref xw, .ref xh, .ref xm, .ref xa, .int 0, .int 0])), (by_, .inl (cI, 400, .inl f)), (xt, .inr (5, [.ref by_, .int 0, .int 0, .int 0, .int 0, .int 0]))] H := hP
  have hD : va_D A [(x, .inr (8, [.ref xs, .ref xt, .ref xc, .ref xd, .ref xr, .ref xi, .ref xv, .ref xw, .ref xh, .ref xm, .ref xa, .int 0, .int 0])), (by_, .inl (cI, 400, .inl f)), (xt, .inr (5, [.ref by_, .int 0, .int 0, .int 0, .int 0, .int 0]))] := hD
  refine lv_if_ne (tgt := 28) S.1 S.2.1 dX8_feed_22 (by decide) (fun c_6 => ?_) (fun c_6 => absurd c_6 (by decide))
  refine lv_aload_n S.1 S.2.1 dX8_feed_28 rfl (lv_at hl 0 rfl) ?_
  refine b_get (v := .ref xt) S iX8 hK hP 0 rfl rfl 1 (by decide) (by decide +kernel) rfl dX8_feed_29 ?_
  refine lv_lload_n S.1 S.2.1 dX8_feed_32 rfl (lv_at hl 1 rfl) ?_
  refine lv_iload_n S.1 S.2.1 dX8_feed_33 rfl (lv_at hl 2 rfl) ?_
  refine b_av (wr := [(x, .inr (8, [.ref xs, .ref xt, .ref xc, .ref xd, .ref xr, .ref xi, .ref xv, .ref xw, .ref xh, .ref xm, .ref xa, .int 0, .int 0]))]) (b_runV (q0 := 2) (ci := 5) (As := [.long wv, .int 4]) (c_X5_append_4 l D cI cZ cC cS sq H.size xt by_ f wv) S gX8_feed_X5_append rfl hdV_X5_append ⟨Nat.le_of_ble_eq_true rfl, Nat.le_of_ble_eq_true rfl⟩ ⟨Nat.le_of_ble_eq_true rfl, Nat.le_of_ble_eq_true rfl⟩ hK hP hD rfl rfl [2, 1] rfl (by decide) rfl hl.1 rfl (Nat.le_of_ble_eq_true rfl) dX8_feed_34) hP hD hS hA [2, 1] [0] rfl rfl (by decide) (by decide) (fun w_8 H locs hw_9 hP hD hS => ?_)
  subst hw_9
  have hP : va_P D vwCl [(x, .inr (8, [.ref xs, .ref xt, .ref xc, .ref xd, .ref xr, .ref xi, .ref xv, .ref xw, .ref xh, .ref xm, .ref xa, .int 0, .int 0])), (xt, .inr (5, [.ref by_, .int 4, .int 0, .int 0, .int 0, .int 0]))] H := hP
  have hD : va_D A [(x, .inr (8, [.ref xs, .ref xt, .ref xc, .ref xd, .ref xr, .ref xi, .ref xv, .ref xw, .ref xh, .ref xm, .ref xa, .int 0, .int 0])), (xt, .inr (5, [.ref by_, .int 4, .int 0, .int 0, .int 0, .int 0]))] := hD
  refine lv_aload_n S.1 S.2.1 dX8_feed_37 rfl (lv_at hl 0 rfl) ?_
  refine b_get (v := .ref xt) S iX8 hK hP 0 rfl rfl 1 (by decide) (by decide +kernel) rfl dX8_feed_38 ?_
  refine b_get (v := .int 4) S iX5 hK hP 1 rfl rfl 1 (by decide) (by decide +kernel) rfl dX8_feed_41 ?_
  have hP := hP.sub (ws' := [(x, .inr (8, [.ref xs, .ref xt, .ref xc, .ref xd, .ref xr, .ref xi, .ref xv, .ref xw, .ref xh, .ref xm, .ref xa, .int 0, .int 0]))]) [0] rfl
  have hD := hD.sub (ws' := [(x, .inr (8, [.ref xs, .ref xt, .ref xc, .ref xd, .ref xr, .ref xi, .ref xv, .ref xw, .ref xh, .ref xm, .ref xa, .int 0, .int 0]))]) [0] (by decide) rfl
  exact b_iret S.1 S.2.1 X.2.1 X.2.2.1 hP hD hS ⟨rfl, rfl⟩ dX8_feed_44
set_option maxHeartbeats 4000000 in
set_option maxRecDepth 100000 in
theorem c_X8_feed_5 (l : Launch) (D : va_G) (cI cZ cC cS : ClassId) (sq sz : Nat) (x : Nat) (xs : Nat) (xt : Nat) (xc : Nat) (xd : Nat) (xr : Nat) (xi : Nat) (xv : Nat) (xw : Nat) (xh : Nat) (xm : Nat) (xa : Nat) (by_ : Nat) (f : Nat → Int32) (wv : Int64) : mI l yX8_feed wsX8_feed 1 24 D (tyW cI cZ cC cS) sq [(x, .inr (8, [.ref xs, .ref xt, .ref xc, .ref xd, .ref xr, .ref xi, .ref xv, .ref xw, .ref xh, .ref xm, .ref xa, .int 0, .int 0])), (xt, .inr (5, [.ref by_, .int 0, .int 0, .int 0, .int 0, .int 0])), (by_, .inl (cI, 400, .inl f))] sz [.ref x, .long wv, .int 5] (fun r w => r = 5 ∧ w = [(x, .inr (8, [.ref xs, .ref xt, .ref xc, .ref xd, .ref xr, .ref xi, .ref xv, .ref xw, .ref xh, .ref xm, .ref xa, .int 0, .int 0]))]) := by
  refine b_metI (cc := cX8_feed) (maxL := 4) (ret := (some .int)) (by decide) rfl (Nat.le_of_ble_eq_true rfl) ?_
  intro p e s m below meth c ls A H X hsz hP hK hD hA hS hl
  have S : CallFix p m c cX8_feed 4 s ([.ref x, .long wv, .int 5] : List Value).toArray wsX8_feed RX8 := X.1
  have hl : lv_has ls 4 [(0, .ref x), (1, .long wv), (3, .int 5)] := hl
  have iX5 := jX8_feed_X5
  have iX8 := jX8_feed_X8
  refine lv_iload_n S.1 S.2.1 dX8_feed_0 rfl (lv_at hl 2 rfl) ?_
  refine lv_iconst (v := 1) S.1 S.2.1 dX8_feed_1 (by decide) ?_
  refine lv_icmp_lt (tgt := 11) S.1 S.2.1 dX8_feed_2 (by decide) (fun c_1 => absurd c_1 (by decide)) (fun c_1 => ?_)
  refine lv_iload_n S.1 S.2.1 dX8_feed_5 rfl (lv_at hl 2 rfl) ?_
  refine lv_bipush (v := 8) S.1 S.2.1 dX8_feed_6 (by decide) ?_
  refine lv_icmp_le (tgt := 14) S.1 S.2.1 dX8_feed_8 (by decide) (fun c_2 => ?_) (fun c_2 => absurd c_2 (by decide))
  refine lv_aload_n S.1 S.2.1 dX8_feed_14 rfl (lv_at hl 0 rfl) ?_
  refine b_get (v := .ref xt) S iX8 hK hP 0 rfl rfl 1 (by decide) (by decide +kernel) rfl dX8_feed_15 ?_
  refine lv_iload_n S.1 S.2.1 dX8_feed_18 rfl (lv_at hl 2 rfl) ?_
  refine b_ai (wr := [(x, .inr (8, [.ref xs, .ref xt, .ref xc, .ref xd, .ref xr, .ref xi, .ref xv, .ref xw, .ref xh, .ref xm, .ref xa, .int 0, .int 0])), (by_, .inl (cI, 400, .inl f))]) (b_runV (q0 := 1) (ci := 5) (As := [.int 5]) (c_X5_hasRoom l D cI cZ cC cS sq H.size xt by_ 5 (by decide)) S gX8_feed_X5_hasRoom rfl hdV_X5_hasRoom ⟨Nat.le_of_ble_eq_true rfl, Nat.le_of_ble_eq_true rfl⟩ ⟨Nat.le_of_ble_eq_true rfl, Nat.le_of_ble_eq_true rfl⟩ hK hP hD rfl rfl [1] rfl (by decide) rfl hl.1 rfl (Nat.le_of_ble_eq_true rfl) dX8_feed_19) hP hD hS hA [1] [0, 2] rfl rfl (by decide) (by decide) (fun r_3 w_4 H locs hw_5 hP hD hS => ?_)
  obtain ⟨rfl, rfl⟩ := hw_5
  have hP : va_P D vwCl [(x, .inr (8, [.ref xs, .ref xt, .ref xc, .ref xd, .ref xr, .ref xi, .ref xv, .ref xw, .ref xh, .ref xm, .ref xa, .int 0, .int 0])), (by_, .inl (cI, 400, .inl f)), (xt, .inr (5, [.ref by_, .int 0, .int 0, .int 0, .int 0, .int 0]))] H := hP
  have hD : va_D A [(x, .inr (8, [.ref xs, .ref xt, .ref xc, .ref xd, .ref xr, .ref xi, .ref xv, .ref xw, .ref xh, .ref xm, .ref xa, .int 0, .int 0])), (by_, .inl (cI, 400, .inl f)), (xt, .inr (5, [.ref by_, .int 0, .int 0, .int 0, .int 0, .int 0]))] := hD
  refine lv_if_ne (tgt := 28) S.1 S.2.1 dX8_feed_22 (by decide) (fun c_6 => ?_) (fun c_6 => absurd c_6 (by decide))
  refine lv_aload_n S.1 S.2.1 dX8_feed_28 rfl (lv_at hl 0 rfl) ?_
  refine b_get (v := .ref xt) S iX8 hK hP 0 rfl rfl 1 (by decide) (by decide +kernel) rfl dX8_feed_29 ?_
  refine lv_lload_n S.1 S.2.1 dX8_feed_32 rfl (lv_at hl 1 rfl) ?_
  refine lv_iload_n S.1 S.2.1 dX8_feed_33 rfl (lv_at hl 2 rfl) ?_
  refine b_av (wr := [(x, .inr (8, [.ref xs, .ref xt, .ref xc, .ref xd, .ref xr, .ref xi, .ref xv, .ref xw, .ref xh, .ref xm, .ref xa, .int 0, .int 0]))]) (b_runV (q0 := 2) (ci := 5) (As := [.long wv, .int 5]) (c_X5_append_5 l D cI cZ cC cS sq H.size xt by_ f wv) S gX8_feed_X5_append rfl hdV_X5_append ⟨Nat.le_of_ble_eq_true rfl, Nat.le_of_ble_eq_true rfl⟩ ⟨Nat.le_of_ble_eq_true rfl, Nat.le_of_ble_eq_true rfl⟩ hK hP hD rfl rfl [2, 1] rfl (by decide) rfl hl.1 rfl (Nat.le_of_ble_eq_true rfl) dX8_feed_34) hP hD hS hA [2, 1] [0] rfl rfl (by decide) (by decide) (fun w_8 H locs hw_9 hP hD hS => ?_)
  subst hw_9
  have hP : va_P D vwCl [(x, .inr (8, [.ref xs, .ref xt, .ref xc, .ref xd, .ref xr, .ref xi, .ref xv, .ref xw, .ref xh, .ref xm, .ref xa, .int 0, .int 0])), (xt, .inr (5, [.ref by_, .int 5, .int 0, .int 0, .int 0, .int 0]))] H := hP
  have hD : va_D A [(x, .inr (8, [.ref xs, .ref xt, .ref xc, .ref xd, .ref xr, .ref xi, .ref xv, .ref xw, .ref xh, .ref xm, .ref xa, .int 0, .int 0])), (xt, .inr (5, [.ref by_, .int 5, .int 0, .int 0, .int 0, .int 0]))] := hD
  refine lv_aload_n S.1 S.2.1 dX8_feed_37 rfl (lv_at hl 0 rfl) ?_
  refine b_get (v := .ref xt) S iX8 hK hP 0 rfl rfl 1 (by decide) (by decide +kernel) rfl dX8_feed_38 ?_
  refine b_get (v := .int 5) S iX5 hK hP 1 rfl rfl 1 (by decide) (by decide +kernel) rfl dX8_feed_41 ?_
  have hP := hP.sub (ws' := [(x, .inr (8, [.ref xs, .ref xt, .ref xc, .ref xd, .ref xr, .ref xi, .ref xv, .ref xw, .ref xh, .ref xm, .ref xa, .int 0, .int 0]))]) [0] rfl
  have hD := hD.sub (ws' := [(x, .inr (8, [.ref xs, .ref xt, .ref xc, .ref xd, .ref xr, .ref xi, .ref xv, .ref xw, .ref xh, .ref xm, .ref xa, .int 0, .int 0]))]) [0] (by decide) rfl
  exact b_iret S.1 S.2.1 X.2.1 X.2.2.1 hP hD hS ⟨rfl, rfl⟩ dX8_feed_44
set_option maxHeartbeats 4000000 in
set_option maxRecDepth 100000 in
theorem c_X8_feed_6 (l : Launch) (D : va_G) (cI cZ cC cS : ClassId) (sq sz : Nat) (x : Nat) (xs : Nat) (xt : Nat) (xc : Nat) (xd : Nat) (xr : Nat) (xi : Nat) (xv : Nat) (xw : Nat) (xh : Nat) (xm : Nat) (xa : Nat) (by_ : Nat) (f : Nat → Int32) (wv : Int64) : mI l yX8_feed wsX8_feed 1 24 D (tyW cI cZ cC cS) sq [(x, .inr (8, [.ref xs, .ref xt, .ref xc, .ref xd, .ref xr, .ref xi, .ref xv, .ref xw, .ref xh, .ref xm, .ref xa, .int 0, .int 0])), (xt, .inr (5, [.ref by_, .int 0, .int 0, .int 0, .int 0, .int 0])), (by_, .inl (cI, 400, .inl f))] sz [.ref x, .long wv, .int 6] (fun r w => r = 6 ∧ w = [(x, .inr (8, [.ref xs, .ref xt, .ref xc, .ref xd, .ref xr, .ref xi, .ref xv, .ref xw, .ref xh, .ref xm, .ref xa, .int 0, .int 0]))]) := by
  refine b_metI (cc := cX8_feed) (maxL := 4) (ret := (some .int)) (by decide) rfl (Nat.le_of_ble_eq_true rfl) ?_
  intro p e s m below meth c ls A H X hsz hP hK hD hA hS hl
  have S : CallFix p m c cX8_feed 4 s ([.ref x, .long wv, .int 6] : List Value).toArray wsX8_feed RX8 := X.1
  have hl : lv_has ls 4 [(0, .ref x), (1, .long wv), (3, .int 6)] := hl
  have iX5 := jX8_feed_X5
  have iX8 := jX8_feed_X8
  refine lv_iload_n S.1 S.2.1 dX8_feed_0 rfl (lv_at hl 2 rfl) ?_
  refine lv_iconst (v := 1) S.1 S.2.1 dX8_feed_1 (by decide) ?_
  refine lv_icmp_lt (tgt := 11) S.1 S.2.1 dX8_feed_2 (by decide) (fun c_1 => absurd c_1 (by decide)) (fun c_1 => ?_)
  refine lv_iload_n S.1 S.2.1 dX8_feed_5 rfl (lv_at hl 2 rfl) ?_
  refine lv_bipush (v := 8) S.1 S.2.1 dX8_feed_6 (by decide) ?_
  refine lv_icmp_le (tgt := 14) S.1 S.2.1 dX8_feed_8 (by decide) (fun c_2 => ?_) (fun c_2 => absurd c_2 (by decide))
  refine lv_aload_n S.1 S.2.1 dX8_feed_14 rfl (lv_at hl 0 rfl) ?_
  refine b_get (v := .ref xt) S iX8 hK hP 0 rfl rfl 1 (by decide) (by decide +kernel) rfl dX8_feed_15 ?_
  refine lv_iload_n S.1 S.2.1 dX8_feed_18 rfl (lv_at hl 2 rfl) ?_
  refine b_ai (wr := [(x, .inr (8, [.ref xs, .ref xt, .ref xc, .ref xd, .ref xr, .ref xi, .ref xv, .ref xw, .ref xh, .ref xm, .ref xa, .int 0, .int 0])), (by_, .inl (cI, 400, .inl f))]) (b_runV (q0 := 1) (ci := 5) (As := [.int 6]) (c_X5_hasRoom l D cI cZ cC cS sq H.size xt by_ 6 (by decide)) S gX8_feed_X5_hasRoom rfl hdV_X5_hasRoom ⟨Nat.le_of_ble_eq_true rfl, Nat.le_of_ble_eq_true rfl⟩ ⟨Nat.le_of_ble_eq_true rfl, Nat.le_of_ble_eq_true rfl⟩ hK hP hD rfl rfl [1] rfl (by decide) rfl hl.1 rfl (Nat.le_of_ble_eq_true rfl) dX8_feed_19) hP hD hS hA [1] [0, 2] rfl rfl (by decide) (by decide) (fun r_3 w_4 H locs hw_5 hP hD hS => ?_)
  obtain ⟨rfl, rfl⟩ := hw_5
  have hP : va_P D vwCl [(x, .inr (8, [.ref xs, .ref xt, .ref xc, .ref xd, .ref xr, .ref xi, .ref xv, .ref xw, .ref xh, .ref xm, .ref xa, .int 0, .int 0])), (by_, .inl (cI, 400, .inl f)), (xt, .inr (5, [.ref by_, .int 0, .int 0, .int 0, .int 0, .int 0]))] H := hP
  have hD : va_D A [(x, .inr (8, [.ref xs, .ref xt, .ref xc, .ref xd, .ref xr, .ref xi, .ref xv, .ref xw, .ref xh, .ref xm, .ref xa, .int 0, .int 0])), (by_, .inl (cI, 400, .inl f)), (xt, .inr (5, [.ref by_, .int 0, .int 0, .int 0, .int 0, .int 0]))] := hD
  refine lv_if_ne (tgt := 28) S.1 S.2.1 dX8_feed_22 (by decide) (fun c_6 => ?_) (fun c_6 => absurd c_6 (by decide))
  refine lv_aload_n S.1 S.2.1 dX8_feed_28 rfl (lv_at hl 0 rfl) ?_
  refine b_get (v := .ref xt) S iX8 hK hP 0 rfl rfl 1 (by decide) (by decide +kernel) rfl dX8_feed_29 ?_
  refine lv_lload_n S.1 S.2.1 dX8_feed_32 rfl (lv_at hl 1 rfl) ?_
  refine lv_iload_n S.1 S.2.1 dX8_feed_33 rfl (lv_at hl 2 rfl) ?_
  refine b_av (wr := [(x, .inr (8, [.ref xs, .ref xt, .ref xc, .ref xd, .ref xr, .ref xi, .ref xv, .ref xw, .ref xh, .ref xm, .ref xa, .int 0, .int 0]))]) (b_runV (q0 := 2) (ci := 5) (As := [.long wv, .int 6]) (c_X5_append_6 l D cI cZ cC cS sq H.size xt by_ f wv) S gX8_feed_X5_append rfl hdV_X5_append ⟨Nat.le_of_ble_eq_true rfl, Nat.le_of_ble_eq_true rfl⟩ ⟨Nat.le_of_ble_eq_true rfl, Nat.le_of_ble_eq_true rfl⟩ hK hP hD rfl rfl [2, 1] rfl (by decide) rfl hl.1 rfl (Nat.le_of_ble_eq_true rfl) dX8_feed_34) hP hD hS hA [2, 1] [0] rfl rfl (by decide) (by decide) (fun w_8 H locs hw_9 hP hD hS => ?_)
  subst hw_9
  have hP : va_P D vwCl [(x, .inr (8, [.ref xs, .ref xt, .ref xc, .ref xd, .ref xr, .ref xi, .ref xv, .ref xw, .ref xh, .ref xm, .ref xa, .int 0, .int 0])), (xt, .inr (5, [.ref by_, .int 6, .int 0, .int 0, .int 0, .int 0]))] H := hP
  have hD : va_D A [(x, .inr (8, [.ref xs, .ref xt, .ref xc, .ref xd, .ref xr, .ref xi, .ref xv, .ref xw, .ref xh, .ref xm, .ref xa, .int 0, .int 0])), (xt, .inr (5, [.ref by_, .int 6, .int 0, .int 0, .int 0, .int 0]))] := hD
  refine lv_aload_n S.1 S.2.1 dX8_feed_37 rfl (lv_at hl 0 rfl) ?_
  refine b_get (v := .ref xt) S iX8 hK hP 0 rfl rfl 1 (by decide) (by decide +kernel) rfl dX8_feed_38 ?_
  refine b_get (v := .int 6) S iX5 hK hP 1 rfl rfl 1 (by decide) (by decide +kernel) rfl dX8_feed_41 ?_
  have hP := hP.sub (ws' := [(x, .inr (8, [.ref xs, .ref xt, .ref xc, .ref xd, .ref xr, .ref xi, .ref xv, .ref xw, .ref xh, .ref xm, .ref xa, .int 0, .int 0]))]) [0] rfl
  have hD := hD.sub (ws' := [(x, .inr (8, [.ref xs, .ref xt, .ref xc, .ref xd, .ref xr, .ref xi, .ref xv, .ref xw, .ref xh, .ref xm, .ref xa, .int 0, .int 0]))]) [0] (by decide) rfl
  exact b_iret S.1 S.2.1 X.2.1 X.2.2.1 hP hD hS ⟨rfl, rfl⟩ dX8_feed_44
set_option maxHeartbeats 4000000 in
set_option maxRecDepth 100000 in
theorem c_X8_feed_7 (l : Launch) (D : va_G) (cI cZ cC cS : ClassId) (sq sz : Nat) (x : Nat) (xs : Nat) (xt : Nat) (xc : Nat) (xd : Nat) (xr : Nat) (xi : Nat) (xv : Nat) (xw : Nat) (xh : Nat) (xm : Nat) (xa : Nat) (by_ : Nat) (f : Nat → Int32) (wv : Int64) : mI l yX8_feed wsX8_feed 1 24 D (tyW cI cZ cC cS) sq [(x, .inr (8, [.ref xs, .ref xt, .ref xc, .ref xd, .ref xr, .ref xi, .ref xv, .ref xw, .ref xh, .ref xm, .ref xa, .int 0, .int 0])), (xt, .inr (5, [.ref by_, .int 0, .int 0, .int 0, .int 0, .int 0])), (by_, .inl (cI, 400, .inl f))] sz [.ref x, .long wv, .int 7] (fun r w => r = 7 ∧ w = [(x, .inr (8, [.ref xs, .ref xt, .ref xc, .ref xd, .ref xr, .ref xi, .ref xv, .ref xw, .ref xh, .ref xm, .ref xa, .int 0, .int 0]))]) := by
  refine b_metI (cc := cX8_feed) (maxL := 4) (ret := (some .int)) (by decide) rfl (Nat.le_of_ble_eq_true rfl) ?_
  intro p e s m below meth c ls A H X hsz hP hK hD hA hS hl
  have S : CallFix p m c cX8_feed 4 s ([.ref x, .long wv, .int 7] : List Value).toArray wsX8_feed RX8 := X.1
  have hl : lv_has ls 4 [(0, .ref x), (1, .long wv), (3, .int 7)] := hl
  have iX5 := jX8_feed_X5
  have iX8 := jX8_feed_X8
  refine lv_iload_n S.1 S.2.1 dX8_feed_0 rfl (lv_at hl 2 rfl) ?_
  refine lv_iconst (v := 1) S.1 S.2.1 dX8_feed_1 (by decide) ?_
  refine lv_icmp_lt (tgt := 11) S.1 S.2.1 dX8_feed_2 (by decide) (fun c_1 => absurd c_1 (by decide)) (fun c_1 => ?_)
  refine lv_iload_n S.1 S.2.1 dX8_feed_5 rfl (lv_at hl 2 rfl) ?_
  refine lv_bipush (v := 8) S.1 S.2.1 dX8_feed_6 (by decide) ?_
  refine lv_icmp_le (tgt := 14) S.1 S.2.1 dX8_feed_8 (by decide) (fun c_2 => ?_) (fun c_2 => absurd c_2 (by decide))
  refine lv_aload_n S.1 S.2.1 dX8_feed_14 rfl (lv_at hl 0 rfl) ?_
  refine b_get (v := .ref xt) S iX8 hK hP 0 rfl rfl 1 (by decide) (by decide +kernel) rfl dX8_feed_15 ?_
  refine lv_iload_n S.1 S.2.1 dX8_feed_18 rfl (lv_at hl 2 rfl) ?_
  refine b_ai (wr := [(x, .inr (8, [.ref xs, .ref xt, .ref xc, .ref xd, .ref xr, .ref xi, .ref xv, .ref xw, .ref xh, .ref xm, .ref xa, .int 0, .int 0])), (by_, .inl (cI, 400, .inl f))]) (b_runV (q0 := 1) (ci := 5) (As := [.int 7]) (c_X5_hasRoom l D cI cZ cC cS sq H.size xt by_ 7 (by decide)) S gX8_feed_X5_hasRoom rfl hdV_X5_hasRoom ⟨Nat.le_of_ble_eq_true rfl, Nat.le_of_ble_eq_true rfl⟩ ⟨Nat.le_of_ble_eq_true rfl, Nat.le_of_ble_eq_true rfl⟩ hK hP hD rfl rfl [1] rfl (by decide) rfl hl.1 rfl (Nat.le_of_ble_eq_true rfl) dX8_feed_19) hP hD hS hA [1] [0, 2] rfl rfl (by decide) (by decide) (fun r_3 w_4 H locs hw_5 hP hD hS => ?_)
  obtain ⟨rfl, rfl⟩ := hw_5
  have hP : va_P D vwCl [(x, .inr (8, [.ref xs, .ref xt, .ref xc, .ref xd, .ref xr, .ref xi, .ref xv, .ref xw, .ref xh, .ref xm, .ref xa, .int 0, .int 0])), (by_, .inl (cI, 400, .inl f)), (xt, .inr (5, [.ref by_, .int 0, .int 0, .int 0, .int 0, .int 0]))] H := hP
  have hD : va_D A [(x, .inr (8, [.ref xs, .ref xt, .ref xc, .ref xd, .ref xr, .ref xi, .ref xv, .ref xw, .ref xh, .ref xm, .ref xa, .int 0, .int 0])), (by_, .inl (cI, 400, .inl f)), (xt, .inr (5, [.ref by_, .int 0, .int 0, .int 0, .int 0, .int 0]))] := hD
  refine lv_if_ne (tgt := 28) S.1 S.2.1 dX8_feed_22 (by decide) (fun c_6 => ?_) (fun c_6 => absurd c_6 (by decide))
  refine lv_aload_n S.1 S.2.1 dX8_feed_28 rfl (lv_at hl 0 rfl) ?_
  refine b_get (v := .ref xt) S iX8 hK hP 0 rfl rfl 1 (by decide) (by decide +kernel) rfl dX8_feed_29 ?_
  refine lv_lload_n S.1 S.2.1 dX8_feed_32 rfl (lv_at hl 1 rfl) ?_
  refine lv_iload_n S.1 S.2.1 dX8_feed_33 rfl (lv_at hl 2 rfl) ?_
  refine b_av (wr := [(x, .inr (8, [.ref xs, .ref xt, .ref xc, .ref xd, .ref xr, .ref xi, .ref xv, .ref xw, .ref xh, .ref xm, .ref xa, .int 0, .int 0]))]) (b_runV (q0 := 2) (ci := 5) (As := [.long wv, .int 7]) (c_X5_append_7 l D cI cZ cC cS sq H.size xt by_ f wv) S gX8_feed_X5_append rfl hdV_X5_append ⟨Nat.le_of_ble_eq_true rfl, Nat.le_of_ble_eq_true rfl⟩ ⟨Nat.le_of_ble_eq_true rfl, Nat.le_of_ble_eq_true rfl⟩ hK hP hD rfl rfl [2, 1] rfl (by decide) rfl hl.1 rfl (Nat.le_of_ble_eq_true rfl) dX8_feed_34) hP hD hS hA [2, 1] [0] rfl rfl (by decide) (by decide) (fun w_8 H locs hw_9 hP hD hS => ?_)
  subst hw_9
  have hP : va_P D vwCl [(x, .inr (8, [.ref xs, .ref xt, .ref xc, .ref xd, .ref xr, .ref xi, .ref xv, .ref xw, .ref xh, .ref xm, .ref xa, .int 0, .int 0])), (xt, .inr (5, [.ref by_, .int 7, .int 0, .int 0, .int 0, .int 0]))] H := hP
  have hD : va_D A [(x, .inr (8, [.ref xs, .ref xt, .ref xc, .ref xd, .ref xr, .ref xi, .ref xv, .ref xw, .ref xh, .ref xm, .ref xa, .int 0, .int 0])), (xt, .inr (5, [.ref by_, .int 7, .int 0, .int 0, .int 0, .int 0]))] := hD
  refine lv_aload_n S.1 S.2.1 dX8_feed_37 rfl (lv_at hl 0 rfl) ?_
  refine b_get (v := .ref xt) S iX8 hK hP 0 rfl rfl 1 (by decide) (by decide +kernel) rfl dX8_feed_38 ?_
  refine b_get (v := .int 7) S iX5 hK hP 1 rfl rfl 1 (by decide) (by decide +kernel) rfl dX8_feed_41 ?_
  have hP := hP.sub (ws' := [(x, .inr (8, [.ref xs, .ref xt, .ref xc, .ref xd, .ref xr, .ref xi, .ref xv, .ref xw, .ref xh, .ref xm, .ref xa, .int 0, .int 0]))]) [0] rfl
  have hD := hD.sub (ws' := [(x, .inr (8, [.ref xs, .ref xt, .ref xc, .ref xd, .ref xr, .ref xi, .ref xv, .ref xw, .ref xh, .ref xm, .ref xa, .int 0, .int 0]))]) [0] (by decide) rfl
  exact b_iret S.1 S.2.1 X.2.1 X.2.2.1 hP hD hS ⟨rfl, rfl⟩ dX8_feed_44
set_option maxHeartbeats 4000000 in
set_option maxRecDepth 100000 in
theorem c_X8_feed_8 (l : Launch) (D : va_G) (cI cZ cC cS : ClassId) (sq sz : Nat) (x : Nat) (xs : Nat) (xt : Nat) (xc : Nat) (xd : Nat) (xr : Nat) (xi : Nat) (xv : Nat) (xw : Nat) (xh : Nat) (xm : Nat) (xa : Nat) (by_ : Nat) (f : Nat → Int32) (wv : Int64) : mI l yX8_feed wsX8_feed 1 24 D (tyW cI cZ cC cS) sq [(x, .inr (8, [.ref xs, .ref xt, .ref xc, .ref xd, .ref xr, .ref xi, .ref xv, .ref xw, .ref xh, .ref xm, .ref xa, .int 0, .int 0])), (xt, .inr (5, [.ref by_, .int 0, .int 0, .int 0, .int 0, .int 0])), (by_, .inl (cI, 400, .inl f))] sz [.ref x, .long wv, .int 8] (fun r w => r = 8 ∧ w = [(x, .inr (8, [.ref xs, .ref xt, .ref xc, .ref xd, .ref xr, .ref xi, .ref xv, .ref xw, .ref xh, .ref xm, .ref xa, .int 0, .int 0]))]) := by
  refine b_metI (cc := cX8_feed) (maxL := 4) (ret := (some .int)) (by decide) rfl (Nat.le_of_ble_eq_true rfl) ?_
  intro p e s m below meth c ls A H X hsz hP hK hD hA hS hl
  have S : CallFix p m c cX8_feed 4 s ([.ref x, .long wv, .int 8] : List Value).toArray wsX8_feed RX8 := X.1
  have hl : lv_has ls 4 [(0, .ref x), (1, .long wv), (3, .int 8)] := hl
  have iX5 := jX8_feed_X5
  have iX8 := jX8_feed_X8
  refine lv_iload_n S.1 S.2.1 dX8_feed_0 rfl (lv_at hl 2 rfl) ?_
  refine lv_iconst (v := 1) S.1 S.2.1 dX8_feed_1 (by decide) ?_
  refine lv_icmp_lt (tgt := 11) S.1 S.2.1 dX8_feed_2 (by decide) (fun c_1 => absurd c_1 (by decide)) (fun c_1 => ?_)
  refine lv_iload_n S.1 S.2.1 dX8_feed_5 rfl (lv_at hl 2 rfl) ?_
  refine lv_bipush (v := 8) S.1 S.2.1 dX8_feed_6 (by decide) ?_
  refine lv_icmp_le (tgt := 14) S.1 S.2.1 dX8_feed_8 (by decide) (fun c_2 => ?_) (fun c_2 => absurd c_2 (by decide))
  refine lv_aload_n S.1 S.2.1 dX8_feed_14 rfl (lv_at hl 0 rfl) ?_
  refine b_get (v := .ref xt) S iX8 hK hP 0 rfl rfl 1 (by decide) (by decide +kernel) rfl dX8_feed_15 ?_
  refine lv_iload_n S.1 S.2.1 dX8_feed_18 rfl (lv_at hl 2 rfl) ?_
  refine b_ai (wr := [(x, .inr (8, [.ref xs, .ref xt, .ref xc, .ref xd, .ref xr, .ref xi, .ref xv, .ref xw, .ref xh, .ref xm, .ref xa, .int 0, .int 0])), (by_, .inl (cI, 400, .inl f))]) (b_runV (q0 := 1) (ci := 5) (As := [.int 8]) (c_X5_hasRoom l D cI cZ cC cS sq H.size xt by_ 8 (by decide)) S gX8_feed_X5_hasRoom rfl hdV_X5_hasRoom ⟨Nat.le_of_ble_eq_true rfl, Nat.le_of_ble_eq_true rfl⟩ ⟨Nat.le_of_ble_eq_true rfl, Nat.le_of_ble_eq_true rfl⟩ hK hP hD rfl rfl [1] rfl (by decide) rfl hl.1 rfl (Nat.le_of_ble_eq_true rfl) dX8_feed_19) hP hD hS hA [1] [0, 2] rfl rfl (by decide) (by decide) (fun r_3 w_4 H locs hw_5 hP hD hS => ?_)
  obtain ⟨rfl, rfl⟩ := hw_5
  have hP : va_P D vwCl [(x, .inr (8, [.ref xs, .ref xt, .ref xc, .ref xd, .ref xr, .ref xi, .ref xv, .ref xw, .ref xh, .ref xm, .ref xa, .int 0, .int 0])), (by_, .inl (cI, 400, .inl f)), (xt, .inr (5, [.ref by_, .int 0, .int 0, .int 0, .int 0, .int 0]))] H := hP
  have hD : va_D A [(x, .inr (8, [.ref xs, .ref xt, .ref xc, .ref xd, .ref xr, .ref xi, .ref xv, .ref xw, .ref xh, .ref xm, .ref xa, .int 0, .int 0])), (by_, .inl (cI, 400, .inl f)), (xt, .inr (5, [.ref by_, .int 0, .int 0, .int 0, .int 0, .int 0]))] := hD
  refine lv_if_ne (tgt := 28) S.1 S.2.1 dX8_feed_22 (by decide) (fun c_6 => ?_) (fun c_6 => absurd c_6 (by decide))
  refine lv_aload_n S.1 S.2.1 dX8_feed_28 rfl (lv_at hl 0 rfl) ?_
  refine b_get (v := .ref xt) S iX8 hK hP 0 rfl rfl 1 (by decide) (by decide +kernel) rfl dX8_feed_29 ?_
  refine lv_lload_n S.1 S.2.1 dX8_feed_32 rfl (lv_at hl 1 rfl) ?_
  refine lv_iload_n S.1 S.2.1 dX8_feed_33 rfl (lv_at hl 2 rfl) ?_
  refine b_av (wr := [(x, .inr (8, [.ref xs, .ref xt, .ref xc, .ref xd, .ref xr, .ref xi, .ref xv, .ref xw, .ref xh, .ref xm, .ref xa, .int 0, .int 0]))]) (b_runV (q0 := 2) (ci := 5) (As := [.long wv, .int 8]) (c_X5_append_8 l D cI cZ cC cS sq H.size xt by_ f wv) S gX8_feed_X5_append rfl hdV_X5_append ⟨Nat.le_of_ble_eq_true rfl, Nat.le_of_ble_eq_true rfl⟩ ⟨Nat.le_of_ble_eq_true rfl, Nat.le_of_ble_eq_true rfl⟩ hK hP hD rfl rfl [2, 1] rfl (by decide) rfl hl.1 rfl (Nat.le_of_ble_eq_true rfl) dX8_feed_34) hP hD hS hA [2, 1] [0] rfl rfl (by decide) (by decide) (fun w_8 H locs hw_9 hP hD hS => ?_)
  subst hw_9
  have hP : va_P D vwCl [(x, .inr (8, [.ref xs, .ref xt, .ref xc, .ref xd, .ref xr, .ref xi, .ref xv, .ref xw, .ref xh, .ref xm, .ref xa, .int 0, .int 0])), (xt, .inr (5, [.ref by_, .int 8, .int 0, .int 0, .int 0, .int 0]))] H := hP
  have hD : va_D A [(x, .inr (8, [.ref xs, .ref xt, .ref xc, .ref xd, .ref xr, .ref xi, .ref xv, .ref xw, .ref xh, .ref xm, .ref xa, .int 0, .int 0])), (xt, .inr (5, [.ref by_, .int 8, .int 0, .int 0, .int 0, .int 0]))] := hD
  refine lv_aload_n S.1 S.2.1 dX8_feed_37 rfl (lv_at hl 0 rfl) ?_
  refine b_get (v := .ref xt) S iX8 hK hP 0 rfl rfl 1 (by decide) (by decide +kernel) rfl dX8_feed_38 ?_
  refine b_get (v := .int 8) S iX5 hK hP 1 rfl rfl 1 (by decide) (by decide +kernel) rfl dX8_feed_41 ?_
  have hP := hP.sub (ws' := [(x, .inr (8, [.ref xs, .ref xt, .ref xc, .ref xd, .ref xr, .ref xi, .ref xv, .ref xw, .ref xh, .ref xm, .ref xa, .int 0, .int 0]))]) [0] rfl
  have hD := hD.sub (ws' := [(x, .inr (8, [.ref xs, .ref xt, .ref xc, .ref xd, .ref xr, .ref xi, .ref xv, .ref xw, .ref xh, .ref xm, .ref xa, .int 0, .int 0]))]) [0] (by decide) rfl
  exact b_iret S.1 S.2.1 X.2.1 X.2.2.1 hP hD hS ⟨rfl, rfl⟩ dX8_feed_44
set_option maxHeartbeats 4000000 in
set_option maxRecDepth 100000 in
theorem c_X8_image_bad (l : Launch) (D : va_G) (cI cZ cC cS : ClassId) (sq sz : Nat) (x : Nat) (xs : Nat) (xt : Nat) (xc : Nat) (xd : Nat) (xr : Nat) (xi : Nat) (xv : Nat) (xw : Nat) (xh : Nat) (xm : Nat) (xa : Nat) (a : Int32) (hr : a.toInt < 0 ∨ 1 < a.toInt) : mI l yX8_image wsX8_image 1 21 D (tyW cI cZ cC cS) sq [(x, .inr (8, [.ref xs, .ref xt, .ref xc, .ref xd, .ref xr, .ref xi, .ref xv, .ref xw, .ref xh, .ref xm, .ref xa, .int 0, .int 0]))] sz [.ref x, .int a] (fun r w => r = -1000001 ∧ w = [(x, .inr (8, [.ref xs, .ref xt, .ref xc, .ref xd, .ref xr, .ref xi, .ref xv, .ref xw, .ref xh, .ref xm, .ref xa, .int 0, .int 0]))]) := by
  refine b_metI (cc := cX8_image) (maxL := 2) (ret := (some .int)) (by decide) rfl (Nat.le_of_ble_eq_true rfl) ?_
  intro p e s m below meth c ls A H X hsz hP hK hD hA hS hl
  have S : CallFix p m c cX8_image 2 s ([.ref x, .int a] : List Value).toArray wsX8_image RX8 := X.1
  have hl : lv_has ls 2 [(0, .ref x), (1, .int a)] := hl
  refine lv_iload_n S.1 S.2.1 dX8_image_0 rfl (lv_at hl 1 rfl) ?_
  refine lv_iconst (v := 2) S.1 S.2.1 dX8_image_1 (by decide) ?_
  refine b_ai (wr := [(x, .inr (8, [.ref xs, .ref xt, .ref xc, .ref xd, .ref xr, .ref xi, .ref xv, .ref xw, .ref xh, .ref xm, .ref xa, .int 0, .int 0]))]) (b_runS (As := [.int a, .int 2]) (c_X8_within_f l D cI cZ cC cS sq H.size a 2 (fun z => by rw [c_lt (N := 0) rfl] at z; rw [c_ge (N := 2) rfl]; omega)) S gX8_image_X8_within rfl hdS_X8_within ⟨Nat.le_of_ble_eq_true rfl, Nat.le_of_ble_eq_true rfl⟩ ⟨Nat.le_of_ble_eq_true rfl, Nat.le_of_ble_eq_true rfl⟩ hK hP hD [] rfl (by decide) rfl hl.1 rfl (Nat.le_of_ble_eq_true rfl) dX8_image_2) hP hD hS hA [] [0] rfl rfl (by decide) (by decide) (fun r_1 w_2 H locs hw_3 hP hD hS => ?_)
  obtain ⟨rfl, rfl⟩ := hw_3
  have hP : va_P D vwCl [(x, .inr (8, [.ref xs, .ref xt, .ref xc, .ref xd, .ref xr, .ref xi, .ref xv, .ref xw, .ref xh, .ref xm, .ref xa, .int 0, .int 0]))] H := hP
  have hD : va_D A [(x, .inr (8, [.ref xs, .ref xt, .ref xc, .ref xd, .ref xr, .ref xi, .ref xv, .ref xw, .ref xh, .ref xm, .ref xa, .int 0, .int 0]))] := hD
  refine lv_if_ne (tgt := 11) S.1 S.2.1 dX8_image_5 (by decide) (fun c_4 => absurd c_4 (by decide)) (fun c_4 => ?_)
  refine lv_ldc (v := (-1000001)) S.1 S.2.1 S.2.2.2.1 (S.2.2.2.2 (.constant RX8 98 (-1000001)) (by decide +kernel)) dX8_image_8 ?_
  exact b_iret S.1 S.2.1 X.2.1 X.2.2.1 hP hD hS ⟨rfl, rfl⟩ dX8_image_10
set_option maxHeartbeats 4000000 in
set_option maxRecDepth 100000 in
theorem c_X8_restore_bad (l : Launch) (D : va_G) (cI cZ cC cS : ClassId) (sq sz : Nat) (x : Nat) (xs : Nat) (xt : Nat) (xc : Nat) (xd : Nat) (xr : Nat) (xi : Nat) (xv : Nat) (xw : Nat) (xh : Nat) (xm : Nat) (xa : Nat) (a : Int32) (hr : a.toInt < 0 ∨ 1 < a.toInt) : mI l yX8_restore wsX8_restore 1 21 D (tyW cI cZ cC cS) sq [(x, .inr (8, [.ref xs, .ref xt, .ref xc, .ref xd, .ref xr, .ref xi, .ref xv, .ref xw, .ref xh, .ref xm, .ref xa, .int 0, .int 0]))] sz [.ref x, .int a] (fun r w => r = -1000001 ∧ w = [(x, .inr (8, [.ref xs, .ref xt, .ref xc, .ref xd, .ref xr, .ref xi, .ref xv, .ref xw, .ref xh, .ref xm, .ref xa, .int 0, .int 0]))]) := by
  refine b_metI (cc := cX8_restore) (maxL := 2) (ret := (some .int)) (by decide) rfl (Nat.le_of_ble_eq_true rfl) ?_
  intro p e s m below meth c ls A H X hsz hP hK hD hA hS hl
  have S : CallFix p m c cX8_restore 2 s ([.ref x, .int a] : List Value).toArray wsX8_restore RX8 := X.1
  have hl : lv_has ls 2 [(0, .ref x), (1, .int a)] := hl
  refine lv_iload_n S.1 S.2.1 dX8_restore_0 rfl (lv_at hl 1 rfl) ?_
  refine lv_iconst (v := 2) S.1 S.2.1 dX8_restore_1 (by decide) ?_
  refine b_ai (wr := [(x, .inr (8, [.ref xs, .ref xt, .ref xc, .ref xd, .ref xr, .ref xi, .ref xv, .ref xw, .ref xh, .ref xm, .ref xa, .int 0, .int 0]))]) (b_runS (As := [.int a, .int 2]) (c_X8_within_f l D cI cZ cC cS sq H.size a 2 (fun z => by rw [c_lt (N := 0) rfl] at z; rw [c_ge (N := 2) rfl]; omega)) S gX8_restore_X8_within rfl hdS_X8_within ⟨Nat.le_of_ble_eq_true rfl, Nat.le_of_ble_eq_true rfl⟩ ⟨Nat.le_of_ble_eq_true rfl, Nat.le_of_ble_eq_true rfl⟩ hK hP hD [] rfl (by decide) rfl hl.1 rfl (Nat.le_of_ble_eq_true rfl) dX8_restore_2) hP hD hS hA [] [0] rfl rfl (by decide) (by decide) (fun r_1 w_2 H locs hw_3 hP hD hS => ?_)
  obtain ⟨rfl, rfl⟩ := hw_3
  have hP : va_P D vwCl [(x, .inr (8, [.ref xs, .ref xt, .ref xc, .ref xd, .ref xr, .ref xi, .ref xv, .ref xw, .ref xh, .ref xm, .ref xa, .int 0, .int 0]))] H := hP
  have hD : va_D A [(x, .inr (8, [.ref xs, .ref xt, .ref xc, .ref xd, .ref xr, .ref xi, .ref xv, .ref xw, .ref xh, .ref xm, .ref xa, .int 0, .int 0]))] := hD
  refine lv_if_ne (tgt := 11) S.1 S.2.1 dX8_restore_5 (by decide) (fun c_4 => absurd c_4 (by decide)) (fun c_4 => ?_)
  refine lv_ldc (v := (-1000001)) S.1 S.2.1 S.2.2.2.1 (S.2.2.2.2 (.constant RX8 98 (-1000001)) (by decide +kernel)) dX8_restore_8 ?_
  exact b_iret S.1 S.2.1 X.2.1 X.2.2.1 hP hD hS ⟨rfl, rfl⟩ dX8_restore_10
set_option maxHeartbeats 4000000 in
set_option maxRecDepth 100000 in
theorem c_X8_image_ok (l : Launch) (D : va_G) (cI cZ cC cS : ClassId) (sq sz : Nat) (x : Nat) (xs : Nat) (xt : Nat) (xc : Nat) (xd : Nat) (xr : Nat) (xi : Nat) (xv : Nat) (xw : Nat) (xh : Nat) (xm : Nat) (xa : Nat) (aCells : Nat) (aPrices : Nat) (aFree : Nat) (aPlaces : Nat) (aHomes : Nat) (aManners : Nat) (aGone : Nat) (aPaid : Nat) (aBlinks : Nat) (a : Int32) (hr : 0 ≤ a.toInt ∧ a.toInt ≤ 1) : mI l yX8_image wsX8_image 2 40 D (tyW cI cZ cC cS) sq [(x, .inr (8, [.ref xs, .ref xt, .ref xc, .ref xd, .ref xr, .ref xi, .ref xv, .ref xw, .ref xh, .ref xm, .ref xa, .int 0, .int 0])), (xc, .inr (1, [.int 0, .int 0, .int 0, .ref aCells, .ref aPrices, .ref aFree, .ref aPlaces, .ref aHomes, .ref aManners, .ref aGone, .ref aPaid, .ref aBlinks]))] sz [.ref x, .int a] (fun r w => r = -1000002 ∧ w = [(x, .inr (8, [.ref xs, .ref xt, .ref xc, .ref xd, .ref xr, .ref xi, .ref xv, .ref xw, .ref xh, .ref xm, .ref xa, .int 0, .int 0])), (xc, .inr (1, [.int 0, .int 0, .int 0, .ref aCells, .ref aPrices, .ref aFree, .ref aPlaces, .ref aHomes, .ref aManners, .ref aGone, .ref aPaid, .ref aBlinks]))]) := by
  refine b_metI (cc := cX8_image) (maxL := 2) (ret := (some .int)) (by decide) rfl (Nat.le_of_ble_eq_true rfl) ?_
  intro p e s m below meth c ls A H X hsz hP hK hD hA hS hl
  have S : CallFix p m c cX8_image 2 s ([.ref x, .int a] : List Value).toArray wsX8_image RX8 := X.1
  have hl : lv_has ls 2 [(0, .ref x), (1, .int a)] := hl
  refine lv_iload_n S.1 S.2.1 dX8_image_0 rfl (lv_at hl 1 rfl) ?_
  refine lv_iconst (v := 2) S.1 S.2.1 dX8_image_1 (by decide) ?_
  refine b_ai (wr := [(x, .inr (8, [.ref xs, .ref xt, .ref xc, .ref xd, .ref xr, .ref xi, .ref xv, .ref xw, .ref xh, .ref xm, .ref xa, .int 0, .int 0])), (xc, .inr (1, [.int 0, .int 0, .int 0, .ref aCells, .ref aPrices, .ref aFree, .ref aPlaces, .ref aHomes, .ref aManners, .ref aGone, .ref aPaid, .ref aBlinks]))]) (b_runS (As := [.int a, .int 2]) (c_X8_within_t l D cI cZ cC cS sq H.size a 2 (by rw [c_lt (N := 0) rfl]; omega) (by rw [c_ge (N := 2) rfl]; omega)) S gX8_image_X8_within rfl hdS_X8_within ⟨Nat.le_of_ble_eq_true rfl, Nat.le_of_ble_eq_true rfl⟩ ⟨Nat.le_of_ble_eq_true rfl, Nat.le_of_ble_eq_true rfl⟩ hK hP hD [] rfl (by decide) rfl hl.1 rfl (Nat.le_of_ble_eq_true rfl) dX8_image_2) hP hD hS hA [] [0, 1] rfl rfl (by decide) (by decide) (fun r_1 w_2 H locs hw_3 hP hD hS => ?_)
  obtain ⟨rfl, rfl⟩ := hw_3
  have hP : va_P D vwCl [(x, .inr (8, [.ref xs, .ref xt, .ref xc, .ref xd, .ref xr, .ref xi, .ref xv, .ref xw, .ref xh, .ref xm, .ref xa, .int 0, .int 0])), (xc, .inr (1, [.int 0, .int 0, .int 0, .ref aCells, .ref aPrices, .ref aFree, .ref aPlaces, .ref aHomes, .ref aManners, .ref aGone, .ref aPaid, .ref aBlinks]))] H := hP
  have hD : va_D A [(x, .inr (8, [.ref xs, .ref xt, .ref xc, .ref xd, .ref xr, .ref xi, .ref xv, .ref xw, .ref xh, .ref xm, .ref xa, .int 0, .int 0])), (xc, .inr (1, [.int 0, .int 0, .int 0, .ref aCells, .ref aPrices, .ref aFree, .ref aPlaces, .ref aHomes, .ref aManners, .ref aGone, .ref aPaid, .ref aBlinks]))] := hD
  refine lv_if_ne (tgt := 11) S.1 S.2.1 dX8_image_5 (by decide) (fun c_4 => ?_) (fun c_4 => absurd c_4 (by decide))
  refine lv_aload_n S.1 S.2.1 dX8_image_11 rfl (lv_at hl 0 rfl) ?_
  refine b_ai (wr := []) (b_runV (q0 := 0) (ci := 8) (As := []) (c_X8_noCity l D cI cZ cC cS sq H.size x xs xt xc xd xr xi xv xw xh xm xa aCells aPrices aFree aPlaces aHomes aManners aGone aPaid aBlinks) S gX8_image_X8_noCity rfl hdV_X8_noCity ⟨Nat.le_of_ble_eq_true rfl, Nat.le_of_ble_eq_true rfl⟩ ⟨Nat.le_of_ble_eq_true rfl, Nat.le_of_ble_eq_true rfl⟩ hK hP hD rfl rfl [0, 1] rfl (by decide) rfl hl.1 rfl (Nat.le_of_ble_eq_true rfl) dX8_image_12) hP hD hS hA [0, 1] [] rfl rfl (by decide) (by decide) (fun r_5 w_6 H locs hw_7 hP hD hS => ?_)
  obtain ⟨rfl, rfl⟩ := hw_7
  have hP : va_P D vwCl [(x, .inr (8, [.ref xs, .ref xt, .ref xc, .ref xd, .ref xr, .ref xi, .ref xv, .ref xw, .ref xh, .ref xm, .ref xa, .int 0, .int 0])), (xc, .inr (1, [.int 0, .int 0, .int 0, .ref aCells, .ref aPrices, .ref aFree, .ref aPlaces, .ref aHomes, .ref aManners, .ref aGone, .ref aPaid, .ref aBlinks]))] H := hP
  have hD : va_D A [(x, .inr (8, [.ref xs, .ref xt, .ref xc, .ref xd, .ref xr, .ref xi, .ref xv, .ref xw, .ref xh, .ref xm, .ref xa, .int 0, .int 0])), (xc, .inr (1, [.int 0, .int 0, .int 0, .ref aCells, .ref aPrices, .ref aFree, .ref aPlaces, .ref aHomes, .ref aManners, .ref aGone, .ref aPaid, .ref aBlinks]))] := hD
  refine lv_if_eq (tgt := 21) S.1 S.2.1 dX8_image_15 (by decide) (fun c_8 => absurd c_8 (by decide)) (fun c_8 => ?_)
  refine lv_ldc (v := (-1000002)) S.1 S.2.1 S.2.2.2.1 (S.2.2.2.2 (.constant RX8 184 (-1000002)) (by decide +kernel)) dX8_image_18 ?_
  exact b_iret S.1 S.2.1 X.2.1 X.2.2.1 hP hD hS ⟨rfl, rfl⟩ dX8_image_20
set_option maxHeartbeats 4000000 in
set_option maxRecDepth 100000 in
theorem c_X8_restore_ok (l : Launch) (D : va_G) (cI cZ cC cS : ClassId) (sq sz : Nat) (x : Nat) (xs : Nat) (xt : Nat) (xc : Nat) (xd : Nat) (xr : Nat) (xi : Nat) (xv : Nat) (xw : Nat) (xh : Nat) (xm : Nat) (xa : Nat) (gi : Nat → Option Nat) (im : Nat) (aCells : Nat) (aPrices : Nat) (aFree : Nat) (aPlaces : Nat) (aHomes : Nat) (aManners : Nat) (aGone : Nat) (aPaid : Nat) (aBlinks : Nat) (a : Int32) (hr : 0 ≤ a.toInt ∧ a.toInt ≤ 1) (hfi : gi a.toNatClampNeg = some im) : mI l yX8_restore wsX8_restore 1 21 D (tyW cI cZ cC cS) sq [(x, .inr (8, [.ref xs, .ref xt, .ref xc, .ref xd, .ref xr, .ref xi, .ref xv, .ref xw, .ref xh, .ref xm, .ref xa, .int 0, .int 0])), (xi, .inl (cC, 2, .inr (.inr (.inr (.inr gi))))), (im, .inr (1, [.int 0, .int 0, .int 0, .ref aCells, .ref aPrices, .ref aFree, .ref aPlaces, .ref aHomes, .ref aManners, .ref aGone, .ref aPaid, .ref aBlinks]))] sz [.ref x, .int a] (fun r w => r = -1000002 ∧ w = [(x, .inr (8, [.ref xs, .ref xt, .ref xc, .ref xd, .ref xr, .ref xi, .ref xv, .ref xw, .ref xh, .ref xm, .ref xa, .int 0, .int 0])), (xi, .inl (cC, 2, .inr (.inr (.inr (.inr gi))))), (im, .inr (1, [.int 0, .int 0, .int 0, .ref aCells, .ref aPrices, .ref aFree, .ref aPlaces, .ref aHomes, .ref aManners, .ref aGone, .ref aPaid, .ref aBlinks]))]) := by
  refine b_metI (cc := cX8_restore) (maxL := 2) (ret := (some .int)) (by decide) rfl (Nat.le_of_ble_eq_true rfl) ?_
  intro p e s m below meth c ls A H X hsz hP hK hD hA hS hl
  have S : CallFix p m c cX8_restore 2 s ([.ref x, .int a] : List Value).toArray wsX8_restore RX8 := X.1
  have hl : lv_has ls 2 [(0, .ref x), (1, .int a)] := hl
  have iX8 := jX8_restore_X8
  refine lv_iload_n S.1 S.2.1 dX8_restore_0 rfl (lv_at hl 1 rfl) ?_
  refine lv_iconst (v := 2) S.1 S.2.1 dX8_restore_1 (by decide) ?_
  refine b_ai (wr := [(x, .inr (8, [.ref xs, .ref xt, .ref xc, .ref xd, .ref xr, .ref xi, .ref xv, .ref xw, .ref xh, .ref xm, .ref xa, .int 0, .int 0])), (xi, .inl (cC, 2, .inr (.inr (.inr (.inr gi))))), (im, .inr (1, [.int 0, .int 0, .int 0, .ref aCells, .ref aPrices, .ref aFree, .ref aPlaces, .ref aHomes, .ref aManners, .ref aGone, .ref aPaid, .ref aBlinks]))]) (b_runS (As := [.int a, .int 2]) (c_X8_within_t l D cI cZ cC cS sq H.size a 2 (by rw [c_lt (N := 0) rfl]; omega) (by rw [c_ge (N := 2) rfl]; omega)) S gX8_restore_X8_within rfl hdS_X8_within ⟨Nat.le_of_ble_eq_true rfl, Nat.le_of_ble_eq_true rfl⟩ ⟨Nat.le_of_ble_eq_true rfl, Nat.le_of_ble_eq_true rfl⟩ hK hP hD [] rfl (by decide) rfl hl.1 rfl (Nat.le_of_ble_eq_true rfl) dX8_restore_2) hP hD hS hA [] [0, 1, 2] rfl rfl (by decide) (by decide) (fun r_1 w_2 H locs hw_3 hP hD hS => ?_)
  obtain ⟨rfl, rfl⟩ := hw_3
  have hP : va_P D vwCl [(x, .inr (8, [.ref xs, .ref xt, .ref xc, .ref xd, .ref xr, .ref xi, .ref xv, .ref xw, .ref xh, .ref xm, .ref xa, .int 0, .int 0])), (xi, .inl (cC, 2, .inr (.inr (.inr (.inr gi))))), (im, .inr (1, [.int 0, .int 0, .int 0, .ref aCells, .ref aPrices, .ref aFree, .ref aPlaces, .ref aHomes, .ref aManners, .ref aGone, .ref aPaid, .ref aBlinks]))] H := hP
  have hD : va_D A [(x, .inr (8, [.ref xs, .ref xt, .ref xc, .ref xd, .ref xr, .ref xi, .ref xv, .ref xw, .ref xh, .ref xm, .ref xa, .int 0, .int 0])), (xi, .inl (cC, 2, .inr (.inr (.inr (.inr gi))))), (im, .inr (1, [.int 0, .int 0, .int 0, .ref aCells, .ref aPrices, .ref aFree, .ref aPlaces, .ref aHomes, .ref aManners, .ref aGone, .ref aPaid, .ref aBlinks]))] := hD
  refine lv_if_ne (tgt := 11) S.1 S.2.1 dX8_restore_5 (by decide) (fun c_4 => ?_) (fun c_4 => absurd c_4 (by decide))
  refine lv_aload_n S.1 S.2.1 dX8_restore_11 rfl (lv_at hl 0 rfl) ?_
  refine b_get (v := .ref xi) S iX8 hK hP 0 rfl rfl 5 (by decide) (by decide +kernel) rfl dX8_restore_12 ?_
  refine lv_iload_n S.1 S.2.1 dX8_restore_15 rfl (lv_at hl 1 rfl) ?_
  refine b_aald S.1 S.2.1 hK.1 hP 1 2 rfl rfl (in_of (n := 2) (by omega) (by omega)) hfi dX8_restore_16 ?_
  refine b_ai (wr := [(x, .inr (8, [.ref xs, .ref xt, .ref xc, .ref xd, .ref xr, .ref xi, .ref xv, .ref xw, .ref xh, .ref xm, .ref xa, .int 0, .int 0])), (xi, .inl (cC, 2, .inr (.inr (.inr (.inr gi)))))]) (b_runV (q0 := 2) (ci := 1) (As := []) (c_X1_isNone l D cI cZ cC cS sq H.size im aCells aPrices aFree aPlaces aHomes aManners aGone aPaid aBlinks) S gX8_restore_X1_isNone rfl hdV_X1_isNone ⟨Nat.le_of_ble_eq_true rfl, Nat.le_of_ble_eq_true rfl⟩ ⟨Nat.le_of_ble_eq_true rfl, Nat.le_of_ble_eq_true rfl⟩ hK hP hD rfl rfl [2] rfl (by decide) rfl hl.1 rfl (Nat.le_of_ble_eq_true rfl) dX8_restore_17) hP hD hS hA [2] [0, 1] rfl rfl (by decide) (by decide) (fun r_5 w_6 H locs hw_7 hP hD hS => ?_)
  obtain ⟨rfl, rfl⟩ := hw_7
  have hP : va_P D vwCl [(x, .inr (8, [.ref xs, .ref xt, .ref xc, .ref xd, .ref xr, .ref xi, .ref xv, .ref xw, .ref xh, .ref xm, .ref xa, .int 0, .int 0])), (xi, .inl (cC, 2, .inr (.inr (.inr (.inr gi))))), (im, .inr (1, [.int 0, .int 0, .int 0, .ref aCells, .ref aPrices, .ref aFree, .ref aPlaces, .ref aHomes, .ref aManners, .ref aGone, .ref aPaid, .ref aBlinks]))] H := hP
  have hD : va_D A [(x, .inr (8, [.ref xs, .ref xt, .ref xc, .ref xd, .ref xr, .ref xi, .ref xv, .ref xw, .ref xh, .ref xm, .ref xa, .int 0, .int 0])), (xi, .inl (cC, 2, .inr (.inr (.inr (.inr gi))))), (im, .inr (1, [.int 0, .int 0, .int 0, .ref aCells, .ref aPrices, .ref aFree, .ref aPlaces, .ref aHomes, .ref aManners, .ref aGone, .ref aPaid, .ref aBlinks]))] := hD
  refine lv_if_eq (tgt := 26) S.1 S.2.1 dX8_restore_20 (by decide) (fun c_8 => absurd c_8 (by decide)) (fun c_8 => ?_)
  refine lv_ldc (v := (-1000002)) S.1 S.2.1 S.2.2.2.1 (S.2.2.2.2 (.constant RX8 184 (-1000002)) (by decide +kernel)) dX8_restore_23 ?_
  exact b_iret S.1 S.2.1 X.2.1 X.2.2.1 hP hD hS ⟨rfl, rfl⟩ dX8_restore_25
