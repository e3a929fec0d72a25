set_option maxRecDepth 20000 in
theorem ggX9_as_X9_finding : GoodIn wsX9_as wsX9_finding := goodIn_r _ [29, 4, 30, 31, 32, 33, 34, 35, 36, 37, 38, 39, 40, 41, 42, 43, 44, 45, 46, 47, 48, 49, 50, 51, 52, 53, 54, 55, 56, 57, 58, 59] (by decide +kernel) (by decide +kernel)
set_option maxRecDepth 20000 in
theorem gX9_as_X9_finding : GoodIn wsX9_as (wsV RX9 74 RX9 yX9_finding wsX9_finding) := goodIn_app (goodIn_of _ (by decide +kernel)) ggX9_as_X9_finding
set_option maxRecDepth 20000 in
theorem ggX9_as_X9_in : GoodIn wsX9_as wsX9_in := goodIn_r _ [13] (by decide +kernel) (by decide +kernel)
set_option maxRecDepth 20000 in
theorem gX9_as_X9_in : GoodIn wsX9_as (va_wsS RX9 63 yX9_in wsX9_in) := goodIn_app (goodIn_of _ (by decide +kernel)) ggX9_as_X9_in
set_option maxRecDepth 20000 in
theorem ggX9_as_X9_isCell : GoodIn wsX9_as wsX9_isCell := goodIn_r _ [9, 10, 11, 12, 8, 13, 14, 15, 16, 17, 18, 31, 32, 33, 34, 35, 36, 37, 38, 39, 40, 41, 42, 43, 44, 45, 46, 47, 48, 49, 50, 51, 52, 53, 54, 55, 56, 57, 58, 59] (by decide +kernel) (by decide +kernel)
set_option maxRecDepth 20000 in
theorem gX9_as_X9_isCell : GoodIn wsX9_as (wsV RX9 195 RX9 yX9_isCell wsX9_isCell) := goodIn_app (goodIn_of _ (by decide +kernel)) ggX9_as_X9_isCell
set_option maxRecDepth 20000 in
theorem ggX9_as_X9_isOf : GoodIn wsX9_as wsX9_isOf := goodIn_r _ [25] (by decide +kernel) (by decide +kernel)
set_option maxRecDepth 20000 in
theorem gX9_as_X9_isOf : GoodIn wsX9_as (va_wsS RX9 306 yX9_isOf wsX9_isOf) := goodIn_app (goodIn_of _ (by decide +kernel)) ggX9_as_X9_isOf
set_option maxRecDepth 20000 in
theorem ggX9_as_X9_kindOf : GoodIn wsX9_as wsX9_kindOf := goodIn_r _ [22, 18, 31, 32, 33, 34, 35, 36, 37, 38, 39, 40, 41, 42, 43, 44, 45, 46, 47, 48, 49, 50, 51, 52, 53, 54, 55, 56, 57, 58, 59] (by decide +kernel) (by decide +kernel)
set_option maxRecDepth 20000 in
theorem gX9_as_X9_kindOf : GoodIn wsX9_as (wsV RX9 303 RX9 yX9_kindOf wsX9_kindOf) := goodIn_app (goodIn_of _ (by decide +kernel)) ggX9_as_X9_kindOf
set_option maxRecDepth 20000 in
theorem ggX9_ask_X9_in : GoodIn wsX9_ask wsX9_in := goodIn_r _ [12] (by decide +kernel) (by decide +kernel)
set_option maxRecDepth 20000 in
theorem gX9_ask_X9_in : GoodIn wsX9_ask (va_wsS RX9 63 yX9_in wsX9_in) := goodIn_app (goodIn_of _ (by decide +kernel)) ggX9_ask_X9_in
set_option maxRecDepth 20000 in
theorem ggX9_ask_X9_isCell : GoodIn wsX9_ask wsX9_isCell := goodIn_r _ [8, 9, 10, 11, 7, 12, 13, 14, 15, 16, 17, 56, 57, 58, 59, 60, 61, 62, 63, 64, 65, 66, 67, 68, 69, 70, 71, 72, 73, 74, 75, 76, 77, 78, 79, 80, 81, 82, 83, 84] (by decide +kernel) (by decide +kernel)
set_option maxRecDepth 20000 in
theorem gX9_ask_X9_isCell : GoodIn wsX9_ask (wsV RX9 195 RX9 yX9_isCell wsX9_isCell) := goodIn_app (goodIn_of _ (by decide +kernel)) ggX9_ask_X9_isCell
set_option maxRecDepth 20000 in
theorem ggX9_ask_X9_kindOf : GoodIn wsX9_ask wsX9_kindOf := goodIn_r _ [21, 17, 56, 57, 58, 59, 60, 61, 62, 63, 64, 65, 66, 67, 68, 69, 70, 71, 72, 73, 74, 75, 76, 77, 78, 79, 80, 81, 82, 83, 84] (by decide +kernel) (by decide +kernel)
set_option maxRecDepth 20000 in
theorem gX9_ask_X9_kindOf : GoodIn wsX9_ask (wsV RX9 303 RX9 yX9_kindOf wsX9_kindOf) := goodIn_app (goodIn_of _ (by decide +kernel)) ggX9_ask_X9_kindOf
set_option maxRecDepth 20000 in
theorem ggX9_ask_X9_markOf : GoodIn wsX9_ask wsX9_markOf := goodIn_r _ [48, 17, 26, 27, 28, 7, 29, 3, 30, 49, 50, 51, 52, 53, 54, 55, 31, 32, 33, 34, 35, 36, 37, 38, 39, 40, 41, 42, 43, 44, 13, 14, 15, 16, 10, 11, 12, 56, 57, 58, 59, 60, 61, 62, 63, 64, 65, 66, 67, 68, 69, 70, 71, 72, 73, 74, 75, 76, 77, 78, 79, 80, 81, 82, 83, 84] (by decide +kernel) (by decide +kernel)
set_option maxRecDepth 20000 in
theorem gX9_ask_X9_markOf : GoodIn wsX9_ask (wsV RX9 321 RX9 yX9_markOf wsX9_markOf) := goodIn_app (goodIn_of _ (by decide +kernel)) ggX9_ask_X9_markOf
set_option maxRecDepth 20000 in
theorem ggX9_ask_X9_sizeOf : GoodIn wsX9_ask wsX9_sizeOf := goodIn_r _ [25, 26, 27, 28, 7, 29, 3, 30, 31, 32, 33, 34, 17, 35, 36, 37, 38, 39, 40, 41, 42, 43, 44, 13, 14, 15, 16, 10, 11, 12, 45, 46, 47, 48, 49, 50, 51, 52, 53, 54, 55, 56, 57, 58, 59, 60, 61, 62, 63, 64, 65, 66, 67, 68, 69, 70, 71, 72, 73, 74, 75, 76, 77, 78, 79, 80, 81, 82, 83, 84] (by decide +kernel) (by decide +kernel)
set_option maxRecDepth 20000 in
theorem gX9_ask_X9_sizeOf : GoodIn wsX9_ask (wsV RX9 324 RX9 yX9_sizeOf wsX9_sizeOf) := goodIn_app (goodIn_of _ (by decide +kernel)) ggX9_ask_X9_sizeOf
set_option maxRecDepth 20000 in
theorem ggX9_count_X9_howMany : GoodIn wsX9_count wsX9_howMany := goodIn_r _ [10, 3, 11, 12, 13, 9, 14, 15, 16, 17, 18, 19, 20, 21, 22, 23, 24, 25, 26, 27, 28, 29, 30, 31, 32, 33, 34, 35, 36, 37, 38, 39, 40, 41, 42, 43, 44, 45, 46, 47, 48, 49, 50, 51] (by decide +kernel) (by decide +kernel)
set_option maxRecDepth 20000 in
theorem gX9_count_X9_howMany : GoodIn wsX9_count (wsV RX9 327 RX9 yX9_howMany wsX9_howMany) := goodIn_app (goodIn_of _ (by decide +kernel)) ggX9_count_X9_howMany
set_option maxRecDepth 20000 in
theorem ggX9_hasFront_X9_isCell : GoodIn wsX9_hasFront wsX9_isCell := goodIn_r _ [6, 7, 8, 9, 5, 10, 11, 12, 13, 14, 1, 15, 16, 17, 18, 19, 20, 21, 22, 23, 24, 25, 26, 27, 28, 29, 30, 31, 32, 33, 34, 35, 36, 37, 38, 39, 40, 41, 42, 43] (by decide +kernel) (by decide +kernel)
set_option maxRecDepth 20000 in
theorem gX9_hasFront_X9_isCell : GoodIn wsX9_hasFront (wsV RX9 195 RX9 yX9_isCell wsX9_isCell) := goodIn_app (goodIn_of _ (by decide +kernel)) ggX9_hasFront_X9_isCell
set_option maxRecDepth 20000 in
theorem ggX9_howMany_X9_isCell : GoodIn wsX9_howMany wsX9_isCell := goodIn_r _ [6, 7, 8, 9, 5, 10, 11, 12, 13, 14, 1, 15, 16, 17, 18, 19, 20, 21, 22, 23, 24, 25, 26, 27, 28, 29, 30, 31, 32, 33, 34, 35, 36, 37, 38, 39, 40, 41, 42, 43] (by decide +kernel) (by decide +kernel)
set_option maxRecDepth 20000 in
theorem gX9_howMany_X9_isCell : GoodIn wsX9_howMany (wsV RX9 195 RX9 yX9_isCell wsX9_isCell) := goodIn_app (goodIn_of _ (by decide +kernel)) ggX9_howMany_X9_isCell
set_option maxRecDepth 20000 in
theorem ggX9_image_X9_in : GoodIn wsX9_image wsX9_in := goodIn_r _ [11] (by decide +kernel) (by decide +kernel)
set_option maxRecDepth 20000 in
theorem gX9_image_X9_in : GoodIn wsX9_image (va_wsS RX9 63 yX9_in wsX9_in) := goodIn_app (goodIn_of _ (by decide +kernel)) ggX9_image_X9_in
set_option maxRecDepth 20000 in
theorem ggX9_kind_X9_isCell : GoodIn wsX9_kind wsX9_isCell := goodIn_r _ [7, 8, 9, 10, 6, 11, 12, 13, 14, 15, 16, 21, 22, 23, 24, 25, 26, 27, 28, 29, 30, 31, 32, 33, 34, 35, 36, 37, 38, 39, 40, 41, 42, 43, 44, 45, 46, 47, 48, 49] (by decide +kernel) (by decide +kernel)
set_option maxRecDepth 20000 in
theorem gX9_kind_X9_isCell : GoodIn wsX9_kind (wsV RX9 195 RX9 yX9_isCell wsX9_isCell) := goodIn_app (goodIn_of _ (by decide +kernel)) ggX9_kind_X9_isCell
set_option maxRecDepth 20000 in
theorem ggX9_kind_X9_kindOf : GoodIn wsX9_kind wsX9_kindOf := goodIn_r _ [20, 16, 21, 22, 23, 24, 25, 26, 27, 28, 29, 30, 31, 32, 33, 34, 35, 36, 37, 38, 39, 40, 41, 42, 43, 44, 45, 46, 47, 48, 49] (by decide +kernel) (by decide +kernel)
set_option maxRecDepth 20000 in
theorem gX9_kind_X9_kindOf : GoodIn wsX9_kind (wsV RX9 303 RX9 yX9_kindOf wsX9_kindOf) := goodIn_app (goodIn_of _ (by decide +kernel)) ggX9_kind_X9_kindOf
set_option maxRecDepth 20000 in
theorem ggX9_markOf_X9_began : GoodIn wsX9_markOf wsX9_began := goodIn_r _ [6, 7, 8, 37, 38, 39, 40, 41, 42, 43, 44, 45, 46, 47, 48, 49, 50, 51, 52, 53, 54, 55, 56, 57, 58, 59, 60, 61, 62, 63, 64, 65] (by decide +kernel) (by decide +kernel)
set_option maxRecDepth 20000 in
theorem gX9_markOf_X9_began : GoodIn wsX9_markOf (wsV RX9 312 RX9 yX9_began wsX9_began) := goodIn_app (goodIn_of _ (by decide +kernel)) ggX9_markOf_X9_began
set_option maxRecDepth 20000 in
theorem ggX9_markOf_X9_isOf : GoodIn wsX9_markOf wsX9_isOf := goodIn_r _ [11] (by decide +kernel) (by decide +kernel)
set_option maxRecDepth 20000 in
theorem gX9_markOf_X9_isOf : GoodIn wsX9_markOf (va_wsS RX9 306 yX9_isOf wsX9_isOf) := goodIn_app (goodIn_of _ (by decide +kernel)) ggX9_markOf_X9_isOf
set_option maxRecDepth 20000 in
theorem ggX9_markOf_X9_wallSize : GoodIn wsX9_markOf wsX9_wallSize := goodIn_r _ [15, 2, 3, 4, 5, 6, 7, 8, 16, 17, 18, 19, 1, 20, 21, 22, 23, 24, 25, 26, 27, 28, 29, 30, 31, 32, 33, 34, 35, 36, 37, 38, 39, 40, 41, 42, 43, 44, 45, 46, 47, 48, 49, 50, 51, 52, 53, 54, 55, 56, 57, 58, 59, 60, 61, 62, 63, 64, 65] (by decide +kernel) (by decide +kernel)
set_option maxRecDepth 20000 in
theorem gX9_markOf_X9_wallSize : GoodIn wsX9_markOf (wsV RX9 318 RX9 yX9_wallSize wsX9_wallSize) := goodIn_app (goodIn_of _ (by decide +kernel)) ggX9_markOf_X9_wallSize
set_option maxRecDepth 20000 in
theorem ggX9_plainSize_X9_began : GoodIn wsX9_plainSize wsX9_began := goodIn_r _ [6, 7, 8, 26, 27, 28, 29, 30, 31, 32, 33, 34, 35, 36, 37, 38, 39, 40, 41, 42, 43, 44, 45, 46, 47, 48, 49, 50, 51, 52, 53, 54] (by decide +kernel) (by decide +kernel)
set_option maxRecDepth 20000 in
theorem gX9_plainSize_X9_began : GoodIn wsX9_plainSize (wsV RX9 312 RX9 yX9_began wsX9_began) := goodIn_app (goodIn_of _ (by decide +kernel)) ggX9_plainSize_X9_began
set_option maxRecDepth 20000 in
theorem ggX9_plainSize_X9_nextTo : GoodIn wsX9_plainSize wsX9_nextTo := goodIn_r _ [12, 13, 14, 5, 15, 16, 17, 18, 19, 20, 21, 22, 1, 23, 24, 25, 26, 27, 28, 29, 30, 31, 32, 33, 34, 35, 36, 37, 38, 39, 40, 41, 42, 43, 44, 45, 46, 47, 48, 49, 50, 51, 52, 53, 54] (by decide +kernel) (by decide +kernel)
set_option maxRecDepth 20000 in
theorem gX9_plainSize_X9_nextTo : GoodIn wsX9_plainSize (wsV RX9 204 RX9 yX9_nextTo wsX9_nextTo) := goodIn_app (goodIn_of _ (by decide +kernel)) ggX9_plainSize_X9_nextTo
set_option maxRecDepth 20000 in
theorem ggX9_restore_X9_in : GoodIn wsX9_restore wsX9_in := goodIn_r _ [10] (by decide +kernel) (by decide +kernel)
set_option maxRecDepth 20000 in
theorem gX9_restore_X9_in : GoodIn wsX9_restore (va_wsS RX9 63 yX9_in wsX9_in) := goodIn_app (goodIn_of _ (by decide +kernel)) ggX9_restore_X9_in
set_option maxRecDepth 20000 in
theorem ggX9_sizeOf_X9_began : GoodIn wsX9_sizeOf wsX9_began := goodIn_r _ [5, 6, 7, 41, 42, 43, 44, 45, 46, 47, 48, 49, 50, 51, 52, 53, 54, 55, 56, 57, 58, 59, 60, 61, 62, 63, 64, 65, 66, 67, 68, 69] (by decide +kernel) (by decide +kernel)
set_option maxRecDepth 20000 in
theorem gX9_sizeOf_X9_began : GoodIn wsX9_sizeOf (wsV RX9 312 RX9 yX9_began wsX9_began) := goodIn_app (goodIn_of _ (by decide +kernel)) ggX9_sizeOf_X9_began
set_option maxRecDepth 20000 in
theorem ggX9_sizeOf_X9_isOf : GoodIn wsX9_sizeOf wsX9_isOf := goodIn_r _ [36] (by decide +kernel) (by decide +kernel)
set_option maxRecDepth 20000 in
theorem gX9_sizeOf_X9_isOf : GoodIn wsX9_sizeOf (va_wsS RX9 306 yX9_isOf wsX9_isOf) := goodIn_app (goodIn_of _ (by decide +kernel)) ggX9_sizeOf_X9_isOf
set_option maxRecDepth 20000 in
theorem ggX9_sizeOf_X9_markOf : GoodIn wsX9_sizeOf wsX9_markOf := goodIn_r _ [33, 12, 1, 2, 3, 4, 5, 6, 7, 34, 35, 36, 37, 38, 39, 40, 8, 9, 10, 11, 13, 14, 15, 16, 17, 18, 19, 20, 21, 22, 23, 24, 25, 26, 27, 28, 29, 41, 42, 43, 44, 45, 46, 47, 48, 49, 50, 51, 52, 53, 54, 55, 56, 57, 58, 59, 60, 61, 62, 63, 64, 65, 66, 67, 68, 69] (by decide +kernel) (by decide +kernel)
set_option maxRecDepth 20000 in
theorem gX9_sizeOf_X9_markOf : GoodIn wsX9_sizeOf (wsV RX9 321 RX9 yX9_markOf wsX9_markOf) := goodIn_app (goodIn_of _ (by decide +kernel)) ggX9_sizeOf_X9_markOf
set_option maxRecDepth 20000 in
theorem ggX9_sizeOf_X9_plainSize : GoodIn wsX9_sizeOf wsX9_plainSize := goodIn_r _ [11, 12, 1, 2, 3, 4, 5, 6, 7, 13, 14, 15, 16, 17, 18, 19, 20, 21, 22, 23, 24, 25, 26, 27, 28, 29, 41, 42, 43, 44, 45, 46, 47, 48, 49, 50, 51, 52, 53, 54, 55, 56, 57, 58, 59, 60, 61, 62, 63, 64, 65, 66, 67, 68, 69] (by decide +kernel) (by decide +kernel)
set_option maxRecDepth 20000 in
theorem gX9_sizeOf_X9_plainSize : GoodIn wsX9_sizeOf (wsV RX9 315 RX9 yX9_plainSize wsX9_plainSize) := goodIn_app (goodIn_of _ (by decide +kernel)) ggX9_sizeOf_X9_plainSize
set_option maxRecDepth 20000 in
theorem ggX9_sizeOf_X9_wallSize : GoodIn wsX9_sizeOf wsX9_wallSize := goodIn_r _ [40, 1, 2, 3, 4, 5, 6, 7, 8, 9, 10, 11, 12, 13, 14, 15, 16, 17, 18, 19, 20, 21, 22, 23, 24, 25, 26, 27, 28, 29, 41, 42, 43, 44, 45, 46, 47, 48, 49, 50, 51, 52, 53, 54, 55, 56, 57, 58, 59, 60, 61, 62, 63, 64, 65, 66, 67, 68, 69] (by decide +kernel) (by decide +kernel)
set_option maxRecDepth 20000 in
theorem gX9_sizeOf_X9_wallSize : GoodIn wsX9_sizeOf (wsV RX9 318 RX9 yX9_wallSize wsX9_wallSize) := goodIn_app (goodIn_of _ (by decide +kernel)) ggX9_sizeOf_X9_wallSize
set_option maxRecDepth 20000 in
theorem ggX9_trace_X9_in : GoodIn wsX9_trace wsX9_in := goodIn_r _ [8] (by decide +kernel) (by decide +kernel)
set_option maxRecDepth 20000 in
theorem gX9_trace_X9_in : GoodIn wsX9_trace (va_wsS RX9 63 yX9_in wsX9_in) := goodIn_app (goodIn_of _ (by decide +kernel)) ggX9_trace_X9_in
set_option maxRecDepth 20000 in
theorem ggX9_wallSize_X9_began : GoodIn wsX9_wallSize wsX9_began := goodIn_r _ [5, 6, 7, 30, 31, 32, 33, 34, 35, 36, 37, 38, 39, 40, 41, 42, 43, 44, 45, 46, 47, 48, 49, 50, 51, 52, 53, 54, 55, 56, 57, 58] (by decide +kernel) (by decide +kernel)
set_option maxRecDepth 20000 in
theorem gX9_wallSize_X9_began : GoodIn wsX9_wallSize (wsV RX9 312 RX9 yX9_began wsX9_began) := goodIn_app (goodIn_of _ (by decide +kernel)) ggX9_wallSize_X9_began
set_option maxRecDepth 20000 in
theorem ggX9_wallSize_X9_plainSize : GoodIn wsX9_wallSize wsX9_plainSize := goodIn_r _ [11, 12, 1, 2, 3, 4, 5, 6, 7, 13, 14, 15, 16, 17, 18, 19, 20, 21, 22, 23, 24, 25, 26, 27, 28, 29, 30, 31, 32, 33, 34, 35, 36, 37, 38, 39, 40, 41, 42, 43, 44, 45, 46, 47, 48, 49, 50, 51, 52, 53, 54, 55, 56, 57, 58] (by decide +kernel) (by decide +kernel)
set_option maxRecDepth 20000 in
theorem gX9_wallSize_X9_plainSize : GoodIn wsX9_wallSize (wsV RX9 315 RX9 yX9_plainSize wsX9_plainSize) := goodIn_app (goodIn_of _ (by decide +kernel)) ggX9_wallSize_X9_plainSize
theorem dX9_as_0 : decode cX9_as 0 = .ok (.aload_n 0, 1) := by decide +kernel
theorem dX9_as_1 : decode cX9_as 1 = .ok (.iconst 0, 1) := by decide +kernel
theorem dX9_as_10 : decode cX9_as 10 = .ok (.ifCond .eq 15, 3) := by decide +kernel
theorem dX9_as_13 : decode cX9_as 13 = .ok (.iload_n 2, 1) := by decide +kernel
theorem dX9_as_14 : decode cX9_as 14 = .ok (.i2l, 1) := by decide +kernel
theorem dX9_as_15 : decode cX9_as 15 = .ok (.lconst 0, 1) := by decide +kernel
theorem dX9_as_16 : decode cX9_as 16 = .ok (.ldc2_w 231, 3) := by decide +kernel
theorem dX9_as_19 : decode cX9_as 19 = .ok (.invokestatic 63, 3) := by decide +kernel
theorem dX9_as_2 : decode cX9_as 2 = .ok (.putfield 53, 3) := by decide +kernel
theorem dX9_as_22 : decode cX9_as 22 = .ok (.ifCond .ne 6, 3) := by decide +kernel
theorem dX9_as_25 : decode cX9_as 25 = .ok (.ldc 73, 2) := by decide +kernel
theorem dX9_as_27 : decode cX9_as 27 = .ok (.ireturn, 1) := by decide +kernel
theorem dX9_as_28 : decode cX9_as 28 = .ok (.aload_n 0, 1) := by decide +kernel
theorem dX9_as_29 : decode cX9_as 29 = .ok (.iconst 0, 1) := by decide +kernel
theorem dX9_as_30 : decode cX9_as 30 = .ok (.putfield 57, 3) := by decide +kernel
theorem dX9_as_33 : decode cX9_as 33 = .ok (.aload_n 0, 1) := by decide +kernel
theorem dX9_as_34 : decode cX9_as 34 = .ok (.iload_n 1, 1) := by decide +kernel
theorem dX9_as_35 : decode cX9_as 35 = .ok (.invokevirtual 303, 3) := by decide +kernel
theorem dX9_as_38 : decode cX9_as 38 = .ok (.iload_n 2, 1) := by decide +kernel
theorem dX9_as_39 : decode cX9_as 39 = .ok (.invokestatic 306, 3) := by decide +kernel
theorem dX9_as_42 : decode cX9_as 42 = .ok (.ifCond .eq 7, 3) := by decide +kernel
theorem dX9_as_45 : decode cX9_as 45 = .ok (.iload_n 1, 1) := by decide +kernel
theorem dX9_as_46 : decode cX9_as 46 = .ok (.goto 8, 3) := by decide +kernel
theorem dX9_as_49 : decode cX9_as 49 = .ok (.aload_n 0, 1) := by decide +kernel
theorem dX9_as_5 : decode cX9_as 5 = .ok (.aload_n 0, 1) := by decide +kernel
theorem dX9_as_50 : decode cX9_as 50 = .ok (.iconst 3, 1) := by decide +kernel
theorem dX9_as_51 : decode cX9_as 51 = .ok (.invokevirtual 74, 3) := by decide +kernel
theorem dX9_as_54 : decode cX9_as 54 = .ok (.ireturn, 1) := by decide +kernel
theorem dX9_as_6 : decode cX9_as 6 = .ok (.iload_n 1, 1) := by decide +kernel
theorem dX9_as_7 : decode cX9_as 7 = .ok (.invokevirtual 195, 3) := by decide +kernel
theorem dX9_ask_0 : decode cX9_ask 0 = .ok (.aload_n 0, 1) := by decide +kernel
theorem dX9_ask_1 : decode cX9_ask 1 = .ok (.iconst 0, 1) := by decide +kernel
theorem dX9_ask_10 : decode cX9_ask 10 = .ok (.ifCond .eq 13, 3) := by decide +kernel
theorem dX9_ask_13 : decode cX9_ask 13 = .ok (.iload_n 2, 1) := by decide +kernel
theorem dX9_ask_14 : decode cX9_ask 14 = .ok (.i2l, 1) := by decide +kernel
theorem dX9_ask_15 : decode cX9_ask 15 = .ok (.lconst 0, 1) := by decide +kernel
theorem dX9_ask_16 : decode cX9_ask 16 = .ok (.lconst 1, 1) := by decide +kernel
theorem dX9_ask_17 : decode cX9_ask 17 = .ok (.invokestatic 63, 3) := by decide +kernel
theorem dX9_ask_2 : decode cX9_ask 2 = .ok (.putfield 53, 3) := by decide +kernel
theorem dX9_ask_20 : decode cX9_ask 20 = .ok (.ifCond .ne 6, 3) := by decide +kernel
theorem dX9_ask_23 : decode cX9_ask 23 = .ok (.ldc 73, 2) := by decide +kernel
theorem dX9_ask_25 : decode cX9_ask 25 = .ok (.ireturn, 1) := by decide +kernel
theorem dX9_ask_26 : decode cX9_ask 26 = .ok (.aload_n 0, 1) := by decide +kernel
theorem dX9_ask_27 : decode cX9_ask 27 = .ok (.iconst 0, 1) := by decide +kernel
theorem dX9_ask_28 : decode cX9_ask 28 = .ok (.putfield 309, 3) := by decide +kernel
theorem dX9_ask_31 : decode cX9_ask 31 = .ok (.iload_n 2, 1) := by decide +kernel
theorem dX9_ask_32 : decode cX9_ask 32 = .ok (.ifCond .ne 16, 3) := by decide +kernel
theorem dX9_ask_35 : decode cX9_ask 35 = .ok (.aload_n 0, 1) := by decide +kernel
theorem dX9_ask_36 : decode cX9_ask 36 = .ok (.iload_n 1, 1) := by decide +kernel
theorem dX9_ask_37 : decode cX9_ask 37 = .ok (.aload_n 0, 1) := by decide +kernel
theorem dX9_ask_38 : decode cX9_ask 38 = .ok (.iload_n 1, 1) := by decide +kernel
theorem dX9_ask_39 : decode cX9_ask 39 = .ok (.invokevirtual 303, 3) := by decide +kernel
theorem dX9_ask_42 : decode cX9_ask 42 = .ok (.invokevirtual 324, 3) := by decide +kernel
theorem dX9_ask_45 : decode cX9_ask 45 = .ok (.goto 13, 3) := by decide +kernel
theorem dX9_ask_48 : decode cX9_ask 48 = .ok (.aload_n 0, 1) := by decide +kernel
theorem dX9_ask_49 : decode cX9_ask 49 = .ok (.iload_n 1, 1) := by decide +kernel
theorem dX9_ask_5 : decode cX9_ask 5 = .ok (.aload_n 0, 1) := by decide +kernel
theorem dX9_ask_50 : decode cX9_ask 50 = .ok (.aload_n 0, 1) := by decide +kernel
theorem dX9_ask_51 : decode cX9_ask 51 = .ok (.iload_n 1, 1) := by decide +kernel
theorem dX9_ask_52 : decode cX9_ask 52 = .ok (.invokevirtual 303, 3) := by decide +kernel
theorem dX9_ask_55 : decode cX9_ask 55 = .ok (.invokevirtual 321, 3) := by decide +kernel
theorem dX9_ask_58 : decode cX9_ask 58 = .ok (.ireturn, 1) := by decide +kernel
theorem dX9_ask_6 : decode cX9_ask 6 = .ok (.iload_n 1, 1) := by decide +kernel
theorem dX9_ask_7 : decode cX9_ask 7 = .ok (.invokevirtual 195, 3) := by decide +kernel
theorem dX9_began_0 : decode cX9_began 0 = .ok (.aload_n 0, 1) := by decide +kernel
theorem dX9_began_1 : decode cX9_began 1 = .ok (.getfield 309, 3) := by decide +kernel
theorem dX9_began_10 : decode cX9_began 10 = .ok (.getfield 50, 3) := by decide +kernel
theorem dX9_began_13 : decode cX9_began 13 = .ok (.aload_n 0, 1) := by decide +kernel
theorem dX9_began_14 : decode cX9_began 14 = .ok (.getfield 309, 3) := by decide +kernel
theorem dX9_began_17 : decode cX9_began 17 = .ok (.iload_n 1, 1) := by decide +kernel
theorem dX9_began_18 : decode cX9_began 18 = .ok (.iastore, 1) := by decide +kernel
theorem dX9_began_19 : decode cX9_began 19 = .ok (.aload_n 0, 1) := by decide +kernel
theorem dX9_began_20 : decode cX9_began 20 = .ok (.dup, 1) := by decide +kernel
theorem dX9_began_21 : decode cX9_began 21 = .ok (.getfield 309, 3) := by decide +kernel
theorem dX9_began_24 : decode cX9_began 24 = .ok (.iconst 1, 1) := by decide +kernel
theorem dX9_began_25 : decode cX9_began 25 = .ok (.iadd, 1) := by decide +kernel
theorem dX9_began_26 : decode cX9_began 26 = .ok (.putfield 309, 3) := by decide +kernel
theorem dX9_began_29 : decode cX9_began 29 = .ok (.return_, 1) := by decide +kernel
theorem dX9_began_4 : decode cX9_began 4 = .ok (.bipush 16, 2) := by decide +kernel
theorem dX9_began_6 : decode cX9_began 6 = .ok (.if_icmp .ge 23, 3) := by decide +kernel
theorem dX9_began_9 : decode cX9_began 9 = .ok (.aload_n 0, 1) := by decide +kernel
theorem dX9_count_0 : decode cX9_count 0 = .ok (.aload_n 0, 1) := by decide +kernel
theorem dX9_count_1 : decode cX9_count 1 = .ok (.iconst 0, 1) := by decide +kernel
theorem dX9_count_100 : decode cX9_count 100 = .ok (.getfield 19, 3) := by decide +kernel
theorem dX9_count_103 : decode cX9_count 103 = .ok (.iconst 3, 1) := by decide +kernel
theorem dX9_count_104 : decode cX9_count 104 = .ok (.iaload, 1) := by decide +kernel
theorem dX9_count_105 : decode cX9_count 105 = .ok (.ireturn, 1) := by decide +kernel
theorem dX9_count_106 : decode cX9_count 106 = .ok (.aload_n 0, 1) := by decide +kernel
theorem dX9_count_107 : decode cX9_count 107 = .ok (.iload_n 1, 1) := by decide +kernel
theorem dX9_count_108 : decode cX9_count 108 = .ok (.iconst 5, 1) := by decide +kernel
theorem dX9_count_109 : decode cX9_count 109 = .ok (.if_icmp .ne 7, 3) := by decide +kernel
theorem dX9_count_112 : decode cX9_count 112 = .ok (.iconst 1, 1) := by decide +kernel
theorem dX9_count_113 : decode cX9_count 113 = .ok (.goto 4, 3) := by decide +kernel
theorem dX9_count_116 : decode cX9_count 116 = .ok (.iconst 0, 1) := by decide +kernel
theorem dX9_count_117 : decode cX9_count 117 = .ok (.invokevirtual 327, 3) := by decide +kernel
theorem dX9_count_120 : decode cX9_count 120 = .ok (.ireturn, 1) := by decide +kernel
theorem dX9_count_121 : decode cX9_count 121 = .ok (.aload_n 0, 1) := by decide +kernel
theorem dX9_count_122 : decode cX9_count 122 = .ok (.getfield 80, 3) := by decide +kernel
theorem dX9_count_125 : decode cX9_count 125 = .ok (.ireturn, 1) := by decide +kernel
theorem dX9_count_126 : decode cX9_count 126 = .ok (.ldc 73, 2) := by decide +kernel
theorem dX9_count_128 : decode cX9_count 128 = .ok (.ireturn, 1) := by decide +kernel
theorem dX9_count_2 : decode cX9_count 2 = .ok (.putfield 53, 3) := by decide +kernel
theorem dX9_count_5 : decode cX9_count 5 = .ok (.iconst 0, 1) := by decide +kernel
theorem dX9_count_52 : decode cX9_count 52 = .ok (.iconst 0, 1) := by decide +kernel
theorem dX9_count_53 : decode cX9_count 53 = .ok (.istore_n 3, 1) := by decide +kernel
theorem dX9_count_54 : decode cX9_count 54 = .ok (.iload_n 3, 1) := by decide +kernel
theorem dX9_count_55 : decode cX9_count 55 = .ok (.bipush 8, 2) := by decide +kernel
theorem dX9_count_57 : decode cX9_count 57 = .ok (.if_icmp .ge 26, 3) := by decide +kernel
theorem dX9_count_6 : decode cX9_count 6 = .ok (.istore_n 2, 1) := by decide +kernel
theorem dX9_count_60 : decode cX9_count 60 = .ok (.iload_n 2, 1) := by decide +kernel
theorem dX9_count_61 : decode cX9_count 61 = .ok (.aload_n 0, 1) := by decide +kernel
theorem dX9_count_62 : decode cX9_count 62 = .ok (.getfield 7, 3) := by decide +kernel
theorem dX9_count_65 : decode cX9_count 65 = .ok (.iload_n 3, 1) := by decide +kernel
theorem dX9_count_66 : decode cX9_count 66 = .ok (.iaload, 1) := by decide +kernel
theorem dX9_count_67 : decode cX9_count 67 = .ok (.ifCond .lt 7, 3) := by decide +kernel
theorem dX9_count_7 : decode cX9_count 7 = .ok (.iload_n 1, 1) := by decide +kernel
theorem dX9_count_70 : decode cX9_count 70 = .ok (.iconst 1, 1) := by decide +kernel
theorem dX9_count_71 : decode cX9_count 71 = .ok (.goto 4, 3) := by decide +kernel
theorem dX9_count_74 : decode cX9_count 74 = .ok (.iconst 0, 1) := by decide +kernel
theorem dX9_count_75 : decode cX9_count 75 = .ok (.iadd, 1) := by decide +kernel
theorem dX9_count_76 : decode cX9_count 76 = .ok (.istore_n 2, 1) := by decide +kernel
theorem dX9_count_77 : decode cX9_count 77 = .ok (.iinc 3 1, 3) := by decide +kernel
theorem dX9_count_8 : decode cX9_count 8 = .ok (.tableswitch 118 0 6 #[44, 77, 84, 91, 98, 98, 113], 44) := by decide +kernel
theorem dX9_count_80 : decode cX9_count 80 = .ok (.goto (-26), 3) := by decide +kernel
theorem dX9_count_83 : decode cX9_count 83 = .ok (.iload_n 2, 1) := by decide +kernel
theorem dX9_count_84 : decode cX9_count 84 = .ok (.ireturn, 1) := by decide +kernel
theorem dX9_count_85 : decode cX9_count 85 = .ok (.aload_n 0, 1) := by decide +kernel
theorem dX9_count_86 : decode cX9_count 86 = .ok (.getfield 19, 3) := by decide +kernel
theorem dX9_count_89 : decode cX9_count 89 = .ok (.iconst 0, 1) := by decide +kernel
theorem dX9_count_90 : decode cX9_count 90 = .ok (.iaload, 1) := by decide +kernel
theorem dX9_count_91 : decode cX9_count 91 = .ok (.ireturn, 1) := by decide +kernel
theorem dX9_count_92 : decode cX9_count 92 = .ok (.aload_n 0, 1) := by decide +kernel
theorem dX9_count_93 : decode cX9_count 93 = .ok (.getfield 19, 3) := by decide +kernel
theorem dX9_count_96 : decode cX9_count 96 = .ok (.iconst 1, 1) := by decide +kernel
theorem dX9_count_97 : decode cX9_count 97 = .ok (.iaload, 1) := by decide +kernel
theorem dX9_count_98 : decode cX9_count 98 = .ok (.ireturn, 1) := by decide +kernel
theorem dX9_count_99 : decode cX9_count 99 = .ok (.aload_n 0, 1) := by decide +kernel
theorem dX9_hasFront_0 : decode cX9_hasFront 0 = .ok (.iconst 0, 1) := by decide +kernel
theorem dX9_hasFront_1 : decode cX9_hasFront 1 = .ok (.istore_n 2, 1) := by decide +kernel
theorem dX9_hasFront_10 : decode cX9_hasFront 10 = .ok (.iload_n 2, 1) := by decide +kernel
theorem dX9_hasFront_11 : decode cX9_hasFront 11 = .ok (.ifCond .ne 23, 3) := by decide +kernel
theorem dX9_hasFront_14 : decode cX9_hasFront 14 = .ok (.aload_n 0, 1) := by decide +kernel
theorem dX9_hasFront_15 : decode cX9_hasFront 15 = .ok (.iload_n 3, 1) := by decide +kernel
theorem dX9_hasFront_16 : decode cX9_hasFront 16 = .ok (.invokevirtual 195, 3) := by decide +kernel
theorem dX9_hasFront_19 : decode cX9_hasFront 19 = .ok (.ifCond .eq 19, 3) := by decide +kernel
theorem dX9_hasFront_2 : decode cX9_hasFront 2 = .ok (.iconst 0, 1) := by decide +kernel
theorem dX9_hasFront_22 : decode cX9_hasFront 22 = .ok (.aload_n 0, 1) := by decide +kernel
theorem dX9_hasFront_23 : decode cX9_hasFront 23 = .ok (.getfield 19, 3) := by decide +kernel
theorem dX9_hasFront_26 : decode cX9_hasFront 26 = .ok (.iconst 4, 1) := by decide +kernel
theorem dX9_hasFront_27 : decode cX9_hasFront 27 = .ok (.iload_n 3, 1) := by decide +kernel
theorem dX9_hasFront_28 : decode cX9_hasFront 28 = .ok (.iadd, 1) := by decide +kernel
theorem dX9_hasFront_29 : decode cX9_hasFront 29 = .ok (.iaload, 1) := by decide +kernel
theorem dX9_hasFront_3 : decode cX9_hasFront 3 = .ok (.istore_n 3, 1) := by decide +kernel
theorem dX9_hasFront_30 : decode cX9_hasFront 30 = .ok (.iload_n 1, 1) := by decide +kernel
theorem dX9_hasFront_31 : decode cX9_hasFront 31 = .ok (.if_icmp .ne 7, 3) := by decide +kernel
theorem dX9_hasFront_34 : decode cX9_hasFront 34 = .ok (.iconst 1, 1) := by decide +kernel
theorem dX9_hasFront_35 : decode cX9_hasFront 35 = .ok (.goto 4, 3) := by decide +kernel
theorem dX9_hasFront_38 : decode cX9_hasFront 38 = .ok (.iconst 0, 1) := by decide +kernel
theorem dX9_hasFront_39 : decode cX9_hasFront 39 = .ok (.istore_n 2, 1) := by decide +kernel
theorem dX9_hasFront_4 : decode cX9_hasFront 4 = .ok (.iload_n 3, 1) := by decide +kernel
theorem dX9_hasFront_40 : decode cX9_hasFront 40 = .ok (.iinc 3 1, 3) := by decide +kernel
theorem dX9_hasFront_43 : decode cX9_hasFront 43 = .ok (.goto (-39), 3) := by decide +kernel
theorem dX9_hasFront_46 : decode cX9_hasFront 46 = .ok (.iload_n 2, 1) := by decide +kernel
theorem dX9_hasFront_47 : decode cX9_hasFront 47 = .ok (.ireturn, 1) := by decide +kernel
theorem dX9_hasFront_5 : decode cX9_hasFront 5 = .ok (.bipush 80, 2) := by decide +kernel
theorem dX9_hasFront_7 : decode cX9_hasFront 7 = .ok (.if_icmp .ge 39, 3) := by decide +kernel
theorem dX9_howMany_0 : decode cX9_howMany 0 = .ok (.iconst 0, 1) := by decide +kernel
theorem dX9_howMany_1 : decode cX9_howMany 1 = .ok (.istore_n 2, 1) := by decide +kernel
theorem dX9_howMany_10 : decode cX9_howMany 10 = .ok (.aload_n 0, 1) := by decide +kernel
theorem dX9_howMany_11 : decode cX9_howMany 11 = .ok (.getfield 19, 3) := by decide +kernel
theorem dX9_howMany_14 : decode cX9_howMany 14 = .ok (.iconst 4, 1) := by decide +kernel
theorem dX9_howMany_15 : decode cX9_howMany 15 = .ok (.iload_n 3, 1) := by decide +kernel
theorem dX9_howMany_16 : decode cX9_howMany 16 = .ok (.iadd, 1) := by decide +kernel
theorem dX9_howMany_17 : decode cX9_howMany 17 = .ok (.iaload, 1) := by decide +kernel
theorem dX9_howMany_18 : decode cX9_howMany 18 = .ok (.istore 4, 2) := by decide +kernel
theorem dX9_howMany_2 : decode cX9_howMany 2 = .ok (.iconst 0, 1) := by decide +kernel
theorem dX9_howMany_20 : decode cX9_howMany 20 = .ok (.iload_n 2, 1) := by decide +kernel
theorem dX9_howMany_21 : decode cX9_howMany 21 = .ok (.aload_n 0, 1) := by decide +kernel
theorem dX9_howMany_22 : decode cX9_howMany 22 = .ok (.iload_n 3, 1) := by decide +kernel
theorem dX9_howMany_23 : decode cX9_howMany 23 = .ok (.invokevirtual 195, 3) := by decide +kernel
theorem dX9_howMany_26 : decode cX9_howMany 26 = .ok (.ifCond .eq 25, 3) := by decide +kernel
theorem dX9_howMany_29 : decode cX9_howMany 29 = .ok (.iload_n 1, 1) := by decide +kernel
theorem dX9_howMany_3 : decode cX9_howMany 3 = .ok (.istore_n 3, 1) := by decide +kernel
theorem dX9_howMany_30 : decode cX9_howMany 30 = .ok (.ifCond .eq 12, 3) := by decide +kernel
theorem dX9_howMany_33 : decode cX9_howMany 33 = .ok (.iload 4, 2) := by decide +kernel
theorem dX9_howMany_35 : decode cX9_howMany 35 = .ok (.iconst (-1), 1) := by decide +kernel
theorem dX9_howMany_36 : decode cX9_howMany 36 = .ok (.if_icmp .ne 15, 3) := by decide +kernel
theorem dX9_howMany_39 : decode cX9_howMany 39 = .ok (.goto 8, 3) := by decide +kernel
theorem dX9_howMany_4 : decode cX9_howMany 4 = .ok (.iload_n 3, 1) := by decide +kernel
theorem dX9_howMany_42 : decode cX9_howMany 42 = .ok (.iload 4, 2) := by decide +kernel
theorem dX9_howMany_44 : decode cX9_howMany 44 = .ok (.ifCond .lt 7, 3) := by decide +kernel
theorem dX9_howMany_47 : decode cX9_howMany 47 = .ok (.iconst 1, 1) := by decide +kernel
theorem dX9_howMany_48 : decode cX9_howMany 48 = .ok (.goto 4, 3) := by decide +kernel
theorem dX9_howMany_5 : decode cX9_howMany 5 = .ok (.bipush 80, 2) := by decide +kernel
theorem dX9_howMany_51 : decode cX9_howMany 51 = .ok (.iconst 0, 1) := by decide +kernel
theorem dX9_howMany_52 : decode cX9_howMany 52 = .ok (.iadd, 1) := by decide +kernel
theorem dX9_howMany_53 : decode cX9_howMany 53 = .ok (.istore_n 2, 1) := by decide +kernel
theorem dX9_howMany_54 : decode cX9_howMany 54 = .ok (.iinc 3 1, 3) := by decide +kernel
theorem dX9_howMany_57 : decode cX9_howMany 57 = .ok (.goto (-53), 3) := by decide +kernel
theorem dX9_howMany_60 : decode cX9_howMany 60 = .ok (.iload_n 2, 1) := by decide +kernel
theorem dX9_howMany_61 : decode cX9_howMany 61 = .ok (.ireturn, 1) := by decide +kernel
theorem dX9_howMany_7 : decode cX9_howMany 7 = .ok (.if_icmp .ge 53, 3) := by decide +kernel
theorem dX9_image_0 : decode cX9_image 0 = .ok (.aload_n 0, 1) := by decide +kernel
theorem dX9_image_1 : decode cX9_image 1 = .ok (.iconst 0, 1) := by decide +kernel
theorem dX9_image_12 : decode cX9_image 12 = .ok (.ifCond .ne 6, 3) := by decide +kernel
theorem dX9_image_15 : decode cX9_image 15 = .ok (.ldc 73, 2) := by decide +kernel
theorem dX9_image_17 : decode cX9_image 17 = .ok (.ireturn, 1) := by decide +kernel
theorem dX9_image_18 : decode cX9_image 18 = .ok (.aload_n 0, 1) := by decide +kernel
theorem dX9_image_19 : decode cX9_image 19 = .ok (.getfield 185, 3) := by decide +kernel
theorem dX9_image_2 : decode cX9_image 2 = .ok (.putfield 53, 3) := by decide +kernel
theorem dX9_image_22 : decode cX9_image 22 = .ok (.ifCond .ne 6, 3) := by decide +kernel
theorem dX9_image_25 : decode cX9_image 25 = .ok (.ldc 233, 2) := by decide +kernel
theorem dX9_image_27 : decode cX9_image 27 = .ok (.ireturn, 1) := by decide +kernel
theorem dX9_image_28 : decode cX9_image 28 = .ok (.iconst 0, 1) := by decide +kernel
theorem dX9_image_29 : decode cX9_image 29 = .ok (.istore_n 2, 1) := by decide +kernel
theorem dX9_image_30 : decode cX9_image 30 = .ok (.iload_n 2, 1) := by decide +kernel
theorem dX9_image_31 : decode cX9_image 31 = .ok (.sipush 192, 3) := by decide +kernel
theorem dX9_image_34 : decode cX9_image 34 = .ok (.if_icmp .ge 27, 3) := by decide +kernel
theorem dX9_image_37 : decode cX9_image 37 = .ok (.aload_n 0, 1) := by decide +kernel
theorem dX9_image_38 : decode cX9_image 38 = .ok (.getfield 47, 3) := by decide +kernel
theorem dX9_image_41 : decode cX9_image 41 = .ok (.sipush 192, 3) := by decide +kernel
theorem dX9_image_44 : decode cX9_image 44 = .ok (.iload_n 1, 1) := by decide +kernel
theorem dX9_image_45 : decode cX9_image 45 = .ok (.imul, 1) := by decide +kernel
theorem dX9_image_46 : decode cX9_image 46 = .ok (.iload_n 2, 1) := by decide +kernel
theorem dX9_image_47 : decode cX9_image 47 = .ok (.iadd, 1) := by decide +kernel
theorem dX9_image_48 : decode cX9_image 48 = .ok (.aload_n 0, 1) := by decide +kernel
theorem dX9_image_49 : decode cX9_image 49 = .ok (.getfield 19, 3) := by decide +kernel
theorem dX9_image_5 : decode cX9_image 5 = .ok (.iload_n 1, 1) := by decide +kernel
theorem dX9_image_52 : decode cX9_image 52 = .ok (.iload_n 2, 1) := by decide +kernel
theorem dX9_image_53 : decode cX9_image 53 = .ok (.iaload, 1) := by decide +kernel
theorem dX9_image_54 : decode cX9_image 54 = .ok (.iastore, 1) := by decide +kernel
theorem dX9_image_55 : decode cX9_image 55 = .ok (.iinc 2 1, 3) := by decide +kernel
theorem dX9_image_58 : decode cX9_image 58 = .ok (.goto (-28), 3) := by decide +kernel
theorem dX9_image_6 : decode cX9_image 6 = .ok (.i2l, 1) := by decide +kernel
theorem dX9_image_61 : decode cX9_image 61 = .ok (.aload_n 0, 1) := by decide +kernel
theorem dX9_image_62 : decode cX9_image 62 = .ok (.getfield 43, 3) := by decide +kernel
theorem dX9_image_65 : decode cX9_image 65 = .ok (.iload_n 1, 1) := by decide +kernel
theorem dX9_image_66 : decode cX9_image 66 = .ok (.iconst 1, 1) := by decide +kernel
theorem dX9_image_67 : decode cX9_image 67 = .ok (.bastore, 1) := by decide +kernel
theorem dX9_image_68 : decode cX9_image 68 = .ok (.iconst 1, 1) := by decide +kernel
theorem dX9_image_69 : decode cX9_image 69 = .ok (.ireturn, 1) := by decide +kernel
theorem dX9_image_7 : decode cX9_image 7 = .ok (.lconst 0, 1) := by decide +kernel
theorem dX9_image_8 : decode cX9_image 8 = .ok (.lconst 1, 1) := by decide +kernel
theorem dX9_image_9 : decode cX9_image 9 = .ok (.invokestatic 63, 3) := by decide +kernel
theorem dX9_kindOf_0 : decode cX9_kindOf 0 = .ok (.aload_n 0, 1) := by decide +kernel
theorem dX9_kindOf_1 : decode cX9_kindOf 1 = .ok (.getfield 19, 3) := by decide +kernel
theorem dX9_kindOf_10 : decode cX9_kindOf 10 = .ok (.bipush (-3), 2) := by decide +kernel
theorem dX9_kindOf_12 : decode cX9_kindOf 12 = .ok (.if_icmp .ne 7, 3) := by decide +kernel
theorem dX9_kindOf_15 : decode cX9_kindOf 15 = .ok (.iconst 1, 1) := by decide +kernel
theorem dX9_kindOf_16 : decode cX9_kindOf 16 = .ok (.goto 41, 3) := by decide +kernel
theorem dX9_kindOf_19 : decode cX9_kindOf 19 = .ok (.iload_n 2, 1) := by decide +kernel
theorem dX9_kindOf_20 : decode cX9_kindOf 20 = .ok (.bipush (-2), 2) := by decide +kernel
theorem dX9_kindOf_22 : decode cX9_kindOf 22 = .ok (.if_icmp .ne 7, 3) := by decide +kernel
theorem dX9_kindOf_25 : decode cX9_kindOf 25 = .ok (.iconst 2, 1) := by decide +kernel
theorem dX9_kindOf_26 : decode cX9_kindOf 26 = .ok (.goto 31, 3) := by decide +kernel
theorem dX9_kindOf_29 : decode cX9_kindOf 29 = .ok (.iload_n 2, 1) := by decide +kernel
theorem dX9_kindOf_30 : decode cX9_kindOf 30 = .ok (.iconst (-1), 1) := by decide +kernel
theorem dX9_kindOf_31 : decode cX9_kindOf 31 = .ok (.if_icmp .ne 7, 3) := by decide +kernel
theorem dX9_kindOf_34 : decode cX9_kindOf 34 = .ok (.iconst 4, 1) := by decide +kernel
theorem dX9_kindOf_35 : decode cX9_kindOf 35 = .ok (.goto 22, 3) := by decide +kernel
theorem dX9_kindOf_38 : decode cX9_kindOf 38 = .ok (.aload_n 0, 1) := by decide +kernel
theorem dX9_kindOf_39 : decode cX9_kindOf 39 = .ok (.getfield 19, 3) := by decide +kernel
theorem dX9_kindOf_4 : decode cX9_kindOf 4 = .ok (.iconst 4, 1) := by decide +kernel
theorem dX9_kindOf_42 : decode cX9_kindOf 42 = .ok (.bipush 84, 2) := by decide +kernel
theorem dX9_kindOf_44 : decode cX9_kindOf 44 = .ok (.iload_n 2, 1) := by decide +kernel
theorem dX9_kindOf_45 : decode cX9_kindOf 45 = .ok (.iadd, 1) := by decide +kernel
theorem dX9_kindOf_46 : decode cX9_kindOf 46 = .ok (.iaload, 1) := by decide +kernel
theorem dX9_kindOf_47 : decode cX9_kindOf 47 = .ok (.bipush 50, 2) := by decide +kernel
theorem dX9_kindOf_49 : decode cX9_kindOf 49 = .ok (.if_icmp .lt 7, 3) := by decide +kernel
theorem dX9_kindOf_5 : decode cX9_kindOf 5 = .ok (.iload_n 1, 1) := by decide +kernel
theorem dX9_kindOf_52 : decode cX9_kindOf 52 = .ok (.iconst 5, 1) := by decide +kernel
theorem dX9_kindOf_53 : decode cX9_kindOf 53 = .ok (.goto 4, 3) := by decide +kernel
theorem dX9_kindOf_56 : decode cX9_kindOf 56 = .ok (.iconst 3, 1) := by decide +kernel
theorem dX9_kindOf_57 : decode cX9_kindOf 57 = .ok (.ireturn, 1) := by decide +kernel
theorem dX9_kindOf_6 : decode cX9_kindOf 6 = .ok (.iadd, 1) := by decide +kernel
theorem dX9_kindOf_7 : decode cX9_kindOf 7 = .ok (.iaload, 1) := by decide +kernel
theorem dX9_kindOf_8 : decode cX9_kindOf 8 = .ok (.istore_n 2, 1) := by decide +kernel
theorem dX9_kindOf_9 : decode cX9_kindOf 9 = .ok (.iload_n 2, 1) := by decide +kernel
theorem dX9_kind_0 : decode cX9_kind 0 = .ok (.aload_n 0, 1) := by decide +kernel
theorem dX9_kind_1 : decode cX9_kind 1 = .ok (.iconst 0, 1) := by decide +kernel
theorem dX9_kind_10 : decode cX9_kind 10 = .ok (.ifCond .eq 11, 3) := by decide +kernel
theorem dX9_kind_13 : decode cX9_kind 13 = .ok (.aload_n 0, 1) := by decide +kernel
theorem dX9_kind_14 : decode cX9_kind 14 = .ok (.iload_n 1, 1) := by decide +kernel
theorem dX9_kind_15 : decode cX9_kind 15 = .ok (.invokevirtual 303, 3) := by decide +kernel
theorem dX9_kind_18 : decode cX9_kind 18 = .ok (.goto 5, 3) := by decide +kernel
theorem dX9_kind_2 : decode cX9_kind 2 = .ok (.putfield 53, 3) := by decide +kernel
theorem dX9_kind_21 : decode cX9_kind 21 = .ok (.ldc 73, 2) := by decide +kernel
theorem dX9_kind_23 : decode cX9_kind 23 = .ok (.ireturn, 1) := by decide +kernel
theorem dX9_kind_5 : decode cX9_kind 5 = .ok (.aload_n 0, 1) := by decide +kernel
theorem dX9_kind_6 : decode cX9_kind 6 = .ok (.iload_n 1, 1) := by decide +kernel
theorem dX9_kind_7 : decode cX9_kind 7 = .ok (.invokevirtual 195, 3) := by decide +kernel
theorem dX9_markOf_0 : decode cX9_markOf 0 = .ok (.iload_n 2, 1) := by decide +kernel
theorem dX9_markOf_1 : decode cX9_markOf 1 = .ok (.iconst 5, 1) := by decide +kernel
theorem dX9_markOf_10 : decode cX9_markOf 10 = .ok (.aload_n 0, 1) := by decide +kernel
theorem dX9_markOf_102 : decode cX9_markOf 102 = .ok (.isub, 1) := by decide +kernel
theorem dX9_markOf_103 : decode cX9_markOf 103 = .ok (.goto 4, 3) := by decide +kernel
theorem dX9_markOf_106 : decode cX9_markOf 106 = .ok (.iload_n 3, 1) := by decide +kernel
theorem dX9_markOf_107 : decode cX9_markOf 107 = .ok (.ireturn, 1) := by decide +kernel
theorem dX9_markOf_11 : decode cX9_markOf 11 = .ok (.iload_n 2, 1) := by decide +kernel
theorem dX9_markOf_12 : decode cX9_markOf 12 = .ok (.iconst 5, 1) := by decide +kernel
theorem dX9_markOf_13 : decode cX9_markOf 13 = .ok (.if_icmp .ne 8, 3) := by decide +kernel
theorem dX9_markOf_16 : decode cX9_markOf 16 = .ok (.bipush 23, 2) := by decide +kernel
theorem dX9_markOf_18 : decode cX9_markOf 18 = .ok (.goto 5, 3) := by decide +kernel
theorem dX9_markOf_2 : decode cX9_markOf 2 = .ok (.if_icmp .eq 8, 3) := by decide +kernel
theorem dX9_markOf_21 : decode cX9_markOf 21 = .ok (.bipush 22, 2) := by decide +kernel
theorem dX9_markOf_23 : decode cX9_markOf 23 = .ok (.invokevirtual 312, 3) := by decide +kernel
theorem dX9_markOf_26 : decode cX9_markOf 26 = .ok (.iload_n 2, 1) := by decide +kernel
theorem dX9_markOf_27 : decode cX9_markOf 27 = .ok (.iconst 3, 1) := by decide +kernel
theorem dX9_markOf_28 : decode cX9_markOf 28 = .ok (.invokestatic 306, 3) := by decide +kernel
theorem dX9_markOf_31 : decode cX9_markOf 31 = .ok (.ifCond .eq 9, 3) := by decide +kernel
theorem dX9_markOf_34 : decode cX9_markOf 34 = .ok (.aload_n 0, 1) := by decide +kernel
theorem dX9_markOf_35 : decode cX9_markOf 35 = .ok (.bipush 21, 2) := by decide +kernel
theorem dX9_markOf_37 : decode cX9_markOf 37 = .ok (.invokevirtual 312, 3) := by decide +kernel
theorem dX9_markOf_40 : decode cX9_markOf 40 = .ok (.aload_n 0, 1) := by decide +kernel
theorem dX9_markOf_41 : decode cX9_markOf 41 = .ok (.bipush 20, 2) := by decide +kernel
theorem dX9_markOf_43 : decode cX9_markOf 43 = .ok (.invokevirtual 312, 3) := by decide +kernel
theorem dX9_markOf_46 : decode cX9_markOf 46 = .ok (.iload_n 2, 1) := by decide +kernel
theorem dX9_markOf_47 : decode cX9_markOf 47 = .ok (.iconst 4, 1) := by decide +kernel
theorem dX9_markOf_48 : decode cX9_markOf 48 = .ok (.if_icmp .ne 11, 3) := by decide +kernel
theorem dX9_markOf_5 : decode cX9_markOf 5 = .ok (.iload_n 2, 1) := by decide +kernel
theorem dX9_markOf_51 : decode cX9_markOf 51 = .ok (.iload_n 1, 1) := by decide +kernel
theorem dX9_markOf_52 : decode cX9_markOf 52 = .ok (.aload_n 0, 1) := by decide +kernel
theorem dX9_markOf_53 : decode cX9_markOf 53 = .ok (.iload_n 1, 1) := by decide +kernel
theorem dX9_markOf_54 : decode cX9_markOf 54 = .ok (.invokevirtual 318, 3) := by decide +kernel
theorem dX9_markOf_57 : decode cX9_markOf 57 = .ok (.iadd, 1) := by decide +kernel
theorem dX9_markOf_58 : decode cX9_markOf 58 = .ok (.ireturn, 1) := by decide +kernel
theorem dX9_markOf_59 : decode cX9_markOf 59 = .ok (.iload_n 2, 1) := by decide +kernel
theorem dX9_markOf_6 : decode cX9_markOf 6 = .ok (.iconst 4, 1) := by decide +kernel
theorem dX9_markOf_60 : decode cX9_markOf 60 = .ok (.iconst 3, 1) := by decide +kernel
theorem dX9_markOf_61 : decode cX9_markOf 61 = .ok (.invokestatic 306, 3) := by decide +kernel
theorem dX9_markOf_64 : decode cX9_markOf 64 = .ok (.ifCond .eq 27, 3) := by decide +kernel
theorem dX9_markOf_67 : decode cX9_markOf 67 = .ok (.iload_n 1, 1) := by decide +kernel
theorem dX9_markOf_68 : decode cX9_markOf 68 = .ok (.bipush 100, 2) := by decide +kernel
theorem dX9_markOf_7 : decode cX9_markOf 7 = .ok (.if_icmp .ne 19, 3) := by decide +kernel
theorem dX9_markOf_70 : decode cX9_markOf 70 = .ok (.aload_n 0, 1) := by decide +kernel
theorem dX9_markOf_71 : decode cX9_markOf 71 = .ok (.getfield 19, 3) := by decide +kernel
theorem dX9_markOf_74 : decode cX9_markOf 74 = .ok (.bipush 84, 2) := by decide +kernel
theorem dX9_markOf_76 : decode cX9_markOf 76 = .ok (.aload_n 0, 1) := by decide +kernel
theorem dX9_markOf_77 : decode cX9_markOf 77 = .ok (.getfield 19, 3) := by decide +kernel
theorem dX9_markOf_80 : decode cX9_markOf 80 = .ok (.iconst 4, 1) := by decide +kernel
theorem dX9_markOf_81 : decode cX9_markOf 81 = .ok (.iload_n 1, 1) := by decide +kernel
theorem dX9_markOf_82 : decode cX9_markOf 82 = .ok (.iadd, 1) := by decide +kernel
theorem dX9_markOf_83 : decode cX9_markOf 83 = .ok (.iaload, 1) := by decide +kernel
theorem dX9_markOf_84 : decode cX9_markOf 84 = .ok (.iadd, 1) := by decide +kernel
theorem dX9_markOf_85 : decode cX9_markOf 85 = .ok (.iaload, 1) := by decide +kernel
theorem dX9_markOf_86 : decode cX9_markOf 86 = .ok (.imul, 1) := by decide +kernel
theorem dX9_markOf_87 : decode cX9_markOf 87 = .ok (.iadd, 1) := by decide +kernel
theorem dX9_markOf_88 : decode cX9_markOf 88 = .ok (.goto 4, 3) := by decide +kernel
theorem dX9_markOf_91 : decode cX9_markOf 91 = .ok (.iload_n 1, 1) := by decide +kernel
theorem dX9_markOf_92 : decode cX9_markOf 92 = .ok (.istore_n 3, 1) := by decide +kernel
theorem dX9_markOf_93 : decode cX9_markOf 93 = .ok (.iload_n 2, 1) := by decide +kernel
theorem dX9_markOf_94 : decode cX9_markOf 94 = .ok (.iconst 5, 1) := by decide +kernel
theorem dX9_markOf_95 : decode cX9_markOf 95 = .ok (.if_icmp .ne 11, 3) := by decide +kernel
theorem dX9_markOf_98 : decode cX9_markOf 98 = .ok (.iload_n 3, 1) := by decide +kernel
theorem dX9_markOf_99 : decode cX9_markOf 99 = .ok (.sipush 1000, 3) := by decide +kernel
theorem dX9_plainSize_0 : decode cX9_plainSize 0 = .ok (.aload_n 0, 1) := by decide +kernel
theorem dX9_plainSize_1 : decode cX9_plainSize 1 = .ok (.bipush 10, 2) := by decide +kernel
theorem dX9_plainSize_10 : decode cX9_plainSize 10 = .ok (.iload_n 3, 1) := by decide +kernel
theorem dX9_plainSize_11 : decode cX9_plainSize 11 = .ok (.bipush 8, 2) := by decide +kernel
theorem dX9_plainSize_13 : decode cX9_plainSize 13 = .ok (.if_icmp .ge 44, 3) := by decide +kernel
theorem dX9_plainSize_16 : decode cX9_plainSize 16 = .ok (.aload_n 0, 1) := by decide +kernel
theorem dX9_plainSize_17 : decode cX9_plainSize 17 = .ok (.iload_n 1, 1) := by decide +kernel
theorem dX9_plainSize_18 : decode cX9_plainSize 18 = .ok (.iload_n 3, 1) := by decide +kernel
theorem dX9_plainSize_19 : decode cX9_plainSize 19 = .ok (.invokevirtual 204, 3) := by decide +kernel
theorem dX9_plainSize_22 : decode cX9_plainSize 22 = .ok (.istore 4, 2) := by decide +kernel
theorem dX9_plainSize_24 : decode cX9_plainSize 24 = .ok (.iload_n 2, 1) := by decide +kernel
theorem dX9_plainSize_25 : decode cX9_plainSize 25 = .ok (.iload 4, 2) := by decide +kernel
theorem dX9_plainSize_27 : decode cX9_plainSize 27 = .ok (.ifCond .lt 21, 3) := by decide +kernel
theorem dX9_plainSize_3 : decode cX9_plainSize 3 = .ok (.invokevirtual 312, 3) := by decide +kernel
theorem dX9_plainSize_30 : decode cX9_plainSize 30 = .ok (.aload_n 0, 1) := by decide +kernel
theorem dX9_plainSize_31 : decode cX9_plainSize 31 = .ok (.getfield 19, 3) := by decide +kernel
theorem dX9_plainSize_34 : decode cX9_plainSize 34 = .ok (.iconst 4, 1) := by decide +kernel
theorem dX9_plainSize_35 : decode cX9_plainSize 35 = .ok (.iload 4, 2) := by decide +kernel
theorem dX9_plainSize_37 : decode cX9_plainSize 37 = .ok (.iadd, 1) := by decide +kernel
theorem dX9_plainSize_38 : decode cX9_plainSize 38 = .ok (.iaload, 1) := by decide +kernel
theorem dX9_plainSize_39 : decode cX9_plainSize 39 = .ok (.bipush (-3), 2) := by decide +kernel
theorem dX9_plainSize_41 : decode cX9_plainSize 41 = .ok (.if_icmp .ne 7, 3) := by decide +kernel
theorem dX9_plainSize_44 : decode cX9_plainSize 44 = .ok (.iconst 1, 1) := by decide +kernel
theorem dX9_plainSize_45 : decode cX9_plainSize 45 = .ok (.goto 4, 3) := by decide +kernel
theorem dX9_plainSize_48 : decode cX9_plainSize 48 = .ok (.iconst 0, 1) := by decide +kernel
theorem dX9_plainSize_49 : decode cX9_plainSize 49 = .ok (.iadd, 1) := by decide +kernel
theorem dX9_plainSize_50 : decode cX9_plainSize 50 = .ok (.istore_n 2, 1) := by decide +kernel
theorem dX9_plainSize_51 : decode cX9_plainSize 51 = .ok (.iinc 3 1, 3) := by decide +kernel
theorem dX9_plainSize_54 : decode cX9_plainSize 54 = .ok (.goto (-44), 3) := by decide +kernel
theorem dX9_plainSize_57 : decode cX9_plainSize 57 = .ok (.iload_n 2, 1) := by decide +kernel
theorem dX9_plainSize_58 : decode cX9_plainSize 58 = .ok (.ireturn, 1) := by decide +kernel
theorem dX9_plainSize_6 : decode cX9_plainSize 6 = .ok (.iconst 0, 1) := by decide +kernel
theorem dX9_plainSize_7 : decode cX9_plainSize 7 = .ok (.istore_n 2, 1) := by decide +kernel
theorem dX9_plainSize_8 : decode cX9_plainSize 8 = .ok (.iconst 0, 1) := by decide +kernel
theorem dX9_plainSize_9 : decode cX9_plainSize 9 = .ok (.istore_n 3, 1) := by decide +kernel
theorem dX9_restore_0 : decode cX9_restore 0 = .ok (.aload_n 0, 1) := by decide +kernel
theorem dX9_restore_1 : decode cX9_restore 1 = .ok (.iconst 0, 1) := by decide +kernel
theorem dX9_restore_12 : decode cX9_restore 12 = .ok (.ifCond .ne 6, 3) := by decide +kernel
theorem dX9_restore_15 : decode cX9_restore 15 = .ok (.ldc 73, 2) := by decide +kernel
theorem dX9_restore_17 : decode cX9_restore 17 = .ok (.ireturn, 1) := by decide +kernel
theorem dX9_restore_18 : decode cX9_restore 18 = .ok (.aload_n 0, 1) := by decide +kernel
theorem dX9_restore_19 : decode cX9_restore 19 = .ok (.getfield 43, 3) := by decide +kernel
theorem dX9_restore_2 : decode cX9_restore 2 = .ok (.putfield 53, 3) := by decide +kernel
theorem dX9_restore_22 : decode cX9_restore 22 = .ok (.iload_n 1, 1) := by decide +kernel
theorem dX9_restore_23 : decode cX9_restore 23 = .ok (.baload, 1) := by decide +kernel
theorem dX9_restore_24 : decode cX9_restore 24 = .ok (.ifCond .ne 6, 3) := by decide +kernel
theorem dX9_restore_27 : decode cX9_restore 27 = .ok (.ldc 233, 2) := by decide +kernel
theorem dX9_restore_29 : decode cX9_restore 29 = .ok (.ireturn, 1) := by decide +kernel
theorem dX9_restore_30 : decode cX9_restore 30 = .ok (.iconst 0, 1) := by decide +kernel
theorem dX9_restore_31 : decode cX9_restore 31 = .ok (.istore_n 2, 1) := by decide +kernel
theorem dX9_restore_32 : decode cX9_restore 32 = .ok (.iload_n 2, 1) := by decide +kernel
theorem dX9_restore_33 : decode cX9_restore 33 = .ok (.sipush 192, 3) := by decide +kernel
theorem dX9_restore_36 : decode cX9_restore 36 = .ok (.if_icmp .ge 27, 3) := by decide +kernel
theorem dX9_restore_39 : decode cX9_restore 39 = .ok (.aload_n 0, 1) := by decide +kernel
theorem dX9_restore_40 : decode cX9_restore 40 = .ok (.getfield 19, 3) := by decide +kernel
theorem dX9_restore_43 : decode cX9_restore 43 = .ok (.iload_n 2, 1) := by decide +kernel
theorem dX9_restore_44 : decode cX9_restore 44 = .ok (.aload_n 0, 1) := by decide +kernel
theorem dX9_restore_45 : decode cX9_restore 45 = .ok (.getfield 47, 3) := by decide +kernel
theorem dX9_restore_48 : decode cX9_restore 48 = .ok (.sipush 192, 3) := by decide +kernel
theorem dX9_restore_5 : decode cX9_restore 5 = .ok (.iload_n 1, 1) := by decide +kernel
theorem dX9_restore_51 : decode cX9_restore 51 = .ok (.iload_n 1, 1) := by decide +kernel
theorem dX9_restore_52 : decode cX9_restore 52 = .ok (.imul, 1) := by decide +kernel
theorem dX9_restore_53 : decode cX9_restore 53 = .ok (.iload_n 2, 1) := by decide +kernel
theorem dX9_restore_54 : decode cX9_restore 54 = .ok (.iadd, 1) := by decide +kernel
theorem dX9_restore_55 : decode cX9_restore 55 = .ok (.iaload, 1) := by decide +kernel
theorem dX9_restore_56 : decode cX9_restore 56 = .ok (.iastore, 1) := by decide +kernel
theorem dX9_restore_57 : decode cX9_restore 57 = .ok (.iinc 2 1, 3) := by decide +kernel
theorem dX9_restore_6 : decode cX9_restore 6 = .ok (.i2l, 1) := by decide +kernel
theorem dX9_restore_60 : decode cX9_restore 60 = .ok (.goto (-28), 3) := by decide +kernel
theorem dX9_restore_63 : decode cX9_restore 63 = .ok (.iconst 1, 1) := by decide +kernel
theorem dX9_restore_64 : decode cX9_restore 64 = .ok (.ireturn, 1) := by decide +kernel
theorem dX9_restore_7 : decode cX9_restore 7 = .ok (.lconst 0, 1) := by decide +kernel
theorem dX9_restore_8 : decode cX9_restore 8 = .ok (.lconst 1, 1) := by decide +kernel
theorem dX9_restore_9 : decode cX9_restore 9 = .ok (.invokestatic 63, 3) := by decide +kernel
theorem dX9_sizeOf_0 : decode cX9_sizeOf 0 = .ok (.iload_n 2, 1) := by decide +kernel
theorem dX9_sizeOf_1 : decode cX9_sizeOf 1 = .ok (.iconst 1, 1) := by decide +kernel
theorem dX9_sizeOf_11 : decode cX9_sizeOf 11 = .ok (.aload_n 0, 1) := by decide +kernel
theorem dX9_sizeOf_12 : decode cX9_sizeOf 12 = .ok (.iload_n 1, 1) := by decide +kernel
theorem dX9_sizeOf_13 : decode cX9_sizeOf 13 = .ok (.invokevirtual 315, 3) := by decide +kernel
theorem dX9_sizeOf_16 : decode cX9_sizeOf 16 = .ok (.istore_n 3, 1) := by decide +kernel
theorem dX9_sizeOf_17 : decode cX9_sizeOf 17 = .ok (.iload_n 3, 1) := by decide +kernel
theorem dX9_sizeOf_18 : decode cX9_sizeOf 18 = .ok (.aload_n 0, 1) := by decide +kernel
theorem dX9_sizeOf_19 : decode cX9_sizeOf 19 = .ok (.iload_n 1, 1) := by decide +kernel
theorem dX9_sizeOf_2 : decode cX9_sizeOf 2 = .ok (.if_icmp .ne 24, 3) := by decide +kernel
theorem dX9_sizeOf_20 : decode cX9_sizeOf 20 = .ok (.iload_n 2, 1) := by decide +kernel
theorem dX9_sizeOf_21 : decode cX9_sizeOf 21 = .ok (.invokevirtual 321, 3) := by decide +kernel
theorem dX9_sizeOf_24 : decode cX9_sizeOf 24 = .ok (.isub, 1) := by decide +kernel
theorem dX9_sizeOf_25 : decode cX9_sizeOf 25 = .ok (.ireturn, 1) := by decide +kernel
theorem dX9_sizeOf_26 : decode cX9_sizeOf 26 = .ok (.iload_n 2, 1) := by decide +kernel
theorem dX9_sizeOf_27 : decode cX9_sizeOf 27 = .ok (.iconst 3, 1) := by decide +kernel
theorem dX9_sizeOf_28 : decode cX9_sizeOf 28 = .ok (.invokestatic 306, 3) := by decide +kernel
theorem dX9_sizeOf_31 : decode cX9_sizeOf 31 = .ok (.ifCond .ne 9, 3) := by decide +kernel
theorem dX9_sizeOf_34 : decode cX9_sizeOf 34 = .ok (.aload_n 0, 1) := by decide +kernel
theorem dX9_sizeOf_35 : decode cX9_sizeOf 35 = .ok (.iload_n 1, 1) := by decide +kernel
theorem dX9_sizeOf_36 : decode cX9_sizeOf 36 = .ok (.invokevirtual 318, 3) := by decide +kernel
theorem dX9_sizeOf_39 : decode cX9_sizeOf 39 = .ok (.ireturn, 1) := by decide +kernel
theorem dX9_sizeOf_40 : decode cX9_sizeOf 40 = .ok (.iload_n 2, 1) := by decide +kernel
theorem dX9_sizeOf_41 : decode cX9_sizeOf 41 = .ok (.iconst 5, 1) := by decide +kernel
theorem dX9_sizeOf_42 : decode cX9_sizeOf 42 = .ok (.if_icmp .ne 9, 3) := by decide +kernel
theorem dX9_sizeOf_45 : decode cX9_sizeOf 45 = .ok (.aload_n 0, 1) := by decide +kernel
theorem dX9_sizeOf_46 : decode cX9_sizeOf 46 = .ok (.bipush 13, 2) := by decide +kernel
theorem dX9_sizeOf_48 : decode cX9_sizeOf 48 = .ok (.invokevirtual 312, 3) := by decide +kernel
theorem dX9_sizeOf_5 : decode cX9_sizeOf 5 = .ok (.aload_n 0, 1) := by decide +kernel
theorem dX9_sizeOf_51 : decode cX9_sizeOf 51 = .ok (.aload_n 0, 1) := by decide +kernel
theorem dX9_sizeOf_52 : decode cX9_sizeOf 52 = .ok (.bipush 12, 2) := by decide +kernel
theorem dX9_sizeOf_54 : decode cX9_sizeOf 54 = .ok (.invokevirtual 312, 3) := by decide +kernel
theorem dX9_sizeOf_57 : decode cX9_sizeOf 57 = .ok (.aload_n 0, 1) := by decide +kernel
theorem dX9_sizeOf_58 : decode cX9_sizeOf 58 = .ok (.iload_n 1, 1) := by decide +kernel
theorem dX9_sizeOf_59 : decode cX9_sizeOf 59 = .ok (.invokevirtual 318, 3) := by decide +kernel
theorem dX9_sizeOf_6 : decode cX9_sizeOf 6 = .ok (.bipush 14, 2) := by decide +kernel
theorem dX9_sizeOf_62 : decode cX9_sizeOf 62 = .ok (.istore_n 3, 1) := by decide +kernel
theorem dX9_sizeOf_63 : decode cX9_sizeOf 63 = .ok (.iload_n 3, 1) := by decide +kernel
theorem dX9_sizeOf_64 : decode cX9_sizeOf 64 = .ok (.aload_n 0, 1) := by decide +kernel
theorem dX9_sizeOf_65 : decode cX9_sizeOf 65 = .ok (.iload_n 1, 1) := by decide +kernel
theorem dX9_sizeOf_66 : decode cX9_sizeOf 66 = .ok (.iload_n 2, 1) := by decide +kernel
theorem dX9_sizeOf_67 : decode cX9_sizeOf 67 = .ok (.invokevirtual 321, 3) := by decide +kernel
theorem dX9_sizeOf_70 : decode cX9_sizeOf 70 = .ok (.iadd, 1) := by decide +kernel
theorem dX9_sizeOf_71 : decode cX9_sizeOf 71 = .ok (.istore_n 3, 1) := by decide +kernel
theorem dX9_sizeOf_72 : decode cX9_sizeOf 72 = .ok (.iload_n 2, 1) := by decide +kernel
theorem dX9_sizeOf_73 : decode cX9_sizeOf 73 = .ok (.iconst 5, 1) := by decide +kernel
theorem dX9_sizeOf_74 : decode cX9_sizeOf 74 = .ok (.if_icmp .ne 9, 3) := by decide +kernel
theorem dX9_sizeOf_77 : decode cX9_sizeOf 77 = .ok (.iconst 2, 1) := by decide +kernel
theorem dX9_sizeOf_78 : decode cX9_sizeOf 78 = .ok (.iload_n 3, 1) := by decide +kernel
theorem dX9_sizeOf_79 : decode cX9_sizeOf 79 = .ok (.imul, 1) := by decide +kernel
theorem dX9_sizeOf_8 : decode cX9_sizeOf 8 = .ok (.invokevirtual 312, 3) := by decide +kernel
theorem dX9_sizeOf_80 : decode cX9_sizeOf 80 = .ok (.goto 4, 3) := by decide +kernel
theorem dX9_sizeOf_83 : decode cX9_sizeOf 83 = .ok (.iload_n 3, 1) := by decide +kernel
theorem dX9_sizeOf_84 : decode cX9_sizeOf 84 = .ok (.ireturn, 1) := by decide +kernel
theorem dX9_trace_0 : decode cX9_trace 0 = .ok (.aload_n 0, 1) := by decide +kernel
theorem dX9_trace_1 : decode cX9_trace 1 = .ok (.iconst 0, 1) := by decide +kernel
theorem dX9_trace_12 : decode cX9_trace 12 = .ok (.iconst 1, 1) := by decide +kernel
theorem dX9_trace_13 : decode cX9_trace 13 = .ok (.isub, 1) := by decide +kernel
theorem dX9_trace_14 : decode cX9_trace 14 = .ok (.i2l, 1) := by decide +kernel
theorem dX9_trace_15 : decode cX9_trace 15 = .ok (.invokestatic 63, 3) := by decide +kernel
theorem dX9_trace_18 : decode cX9_trace 18 = .ok (.ifCond .eq 12, 3) := by decide +kernel
theorem dX9_trace_2 : decode cX9_trace 2 = .ok (.putfield 53, 3) := by decide +kernel
theorem dX9_trace_21 : decode cX9_trace 21 = .ok (.aload_n 0, 1) := by decide +kernel
theorem dX9_trace_22 : decode cX9_trace 22 = .ok (.getfield 50, 3) := by decide +kernel
theorem dX9_trace_25 : decode cX9_trace 25 = .ok (.iload_n 1, 1) := by decide +kernel
theorem dX9_trace_26 : decode cX9_trace 26 = .ok (.iaload, 1) := by decide +kernel
theorem dX9_trace_27 : decode cX9_trace 27 = .ok (.goto 5, 3) := by decide +kernel
theorem dX9_trace_30 : decode cX9_trace 30 = .ok (.ldc 89, 2) := by decide +kernel
theorem dX9_trace_32 : decode cX9_trace 32 = .ok (.ireturn, 1) := by decide +kernel
theorem dX9_trace_5 : decode cX9_trace 5 = .ok (.iload_n 1, 1) := by decide +kernel
theorem dX9_trace_6 : decode cX9_trace 6 = .ok (.i2l, 1) := by decide +kernel
theorem dX9_trace_7 : decode cX9_trace 7 = .ok (.lconst 0, 1) := by decide +kernel
theorem dX9_trace_8 : decode cX9_trace 8 = .ok (.aload_n 0, 1) := by decide +kernel
theorem dX9_trace_9 : decode cX9_trace 9 = .ok (.getfield 309, 3) := by decide +kernel
theorem dX9_wallSize_0 : decode cX9_wallSize 0 = .ok (.aload_n 0, 1) := by decide +kernel
theorem dX9_wallSize_1 : decode cX9_wallSize 1 = .ok (.bipush 11, 2) := by decide +kernel
theorem dX9_wallSize_11 : decode cX9_wallSize 11 = .ok (.ineg, 1) := by decide +kernel
theorem dX9_wallSize_12 : decode cX9_wallSize 12 = .ok (.ireturn, 1) := by decide +kernel
theorem dX9_wallSize_3 : decode cX9_wallSize 3 = .ok (.invokevirtual 312, 3) := by decide +kernel
theorem dX9_wallSize_6 : decode cX9_wallSize 6 = .ok (.aload_n 0, 1) := by decide +kernel
theorem dX9_wallSize_7 : decode cX9_wallSize 7 = .ok (.iload_n 1, 1) := by decide +kernel
theorem dX9_wallSize_8 : decode cX9_wallSize 8 = .ok (.invokevirtual 315, 3) := by decide +kernel
theorem jX9_as_X9 : ∀ w ∈ u_ws RX9 TX9 29, w ∈ wsX9_as := fun w h => List.mem_cons_of_mem _ (List.mem_append_right _ h)
theorem jX9_ask_X9 : ∀ w ∈ u_ws RX9 TX9 29, w ∈ wsX9_ask := fun w h => List.mem_cons_of_mem _ (List.mem_append_right _ h)
theorem jX9_began_X9 : ∀ w ∈ u_ws RX9 TX9 29, w ∈ wsX9_began := fun w h => List.mem_cons_of_mem _ (List.mem_append_right _ h)
theorem jX9_count_X9 : ∀ w ∈ u_ws RX9 TX9 29, w ∈ wsX9_count := fun w h => List.mem_cons_of_mem _ (List.mem_append_right _ h)
theorem jX9_hasFront_X9 : ∀ w ∈ u_ws RX9 TX9 29, w ∈ wsX9_hasFront := fun w h => List.mem_cons_of_mem _ (List.mem_append_right _ h)
theorem jX9_howMany_X9 : ∀ w ∈ u_ws RX9 TX9 29, w ∈ wsX9_howMany := fun w h => List.mem_cons_of_mem _ (List.mem_append_right _ h)
theorem jX9_image_X9 : ∀ w ∈ u_ws RX9 TX9 29, w ∈ wsX9_image := fun w h => List.mem_cons_of_mem _ (List.mem_append_right _ h)
theorem jX9_kind_X9 : ∀ w ∈ u_ws RX9 TX9 29, w ∈ wsX9_kind := fun w h => List.mem_cons_of_mem _ (List.mem_append_right _ h)
theorem jX9_kindOf_X9 : ∀ w ∈ u_ws RX9 TX9 29, w ∈ wsX9_kindOf := fun w h => List.mem_cons_of_mem _ (List.mem_append_right _ h)
theorem jX9_markOf_X9 : ∀ w ∈ u_ws RX9 TX9 29, w ∈ wsX9_markOf := fun w h => List.mem_cons_of_mem _ (List.mem_append_right _ h)
theorem jX9_plainSize_X9 : ∀ w ∈ u_ws RX9 TX9 29, w ∈ wsX9_plainSize := fun w h => List.mem_cons_of_mem _ (List.mem_append_right _ h)
theorem jX9_restore_X9 : ∀ w ∈ u_ws RX9 TX9 29, w ∈ wsX9_restore := fun w h => List.mem_cons_of_mem _ (List.mem_append_right _ h)
theorem jX9_trace_X9 : ∀ w ∈ u_ws RX9 TX9 29, w ∈ wsX9_trace := fun w h => List.mem_cons_of_mem _ (List.mem_append_right _ h)
theorem hdS_X9_isOf : yX9_isOf.cls ≠ "java/lang/invoke/MethodHandle" ∧ yX9_isOf.cls ≠ "java/lang/invoke/VarHandle" ∧ (parseMethodDescriptor yX9_isOf.desc).map (fun d => d.parameters.length) = some 2 := by decide +kernel
theorem hdV_X9_began : yX9_began.cls = RX9 ∧ yX9_began.cls ≠ "java/lang/invoke/MethodHandle" ∧ yX9_began.cls ≠ "java/lang/invoke/VarHandle" ∧ (parseMethodDescriptor yX9_began.desc).map (fun d => d.parameters.length) = some 1 := by decide +kernel
theorem hdV_X9_howMany : yX9_howMany.cls = RX9 ∧ yX9_howMany.cls ≠ "java/lang/invoke/MethodHandle" ∧ yX9_howMany.cls ≠ "java/lang/invoke/VarHandle" ∧ (parseMethodDescriptor yX9_howMany.desc).map (fun d => d.parameters.length) = some 1 := by decide +kernel
theorem hdV_X9_kindOf : yX9_kindOf.cls = RX9 ∧ yX9_kindOf.cls ≠ "java/lang/invoke/MethodHandle" ∧ yX9_kindOf.cls ≠ "java/lang/invoke/VarHandle" ∧ (parseMethodDescriptor yX9_kindOf.desc).map (fun d => d.parameters.length) = some 1 := by decide +kernel
theorem hdV_X9_markOf : yX9_markOf.cls = RX9 ∧ yX9_markOf.cls ≠ "java/lang/invoke/MethodHandle" ∧ yX9_markOf.cls ≠ "java/lang/invoke/VarHandle" ∧ (parseMethodDescriptor yX9_markOf.desc).map (fun d => d.parameters.length) = some 2 := by decide +kernel
theorem hdV_X9_plainSize : yX9_plainSize.cls = RX9 ∧ yX9_plainSize.cls ≠ "java/lang/invoke/MethodHandle" ∧ yX9_plainSize.cls ≠ "java/lang/invoke/VarHandle" ∧ (parseMethodDescriptor yX9_plainSize.desc).map (fun d => d.parameters.length) = some 1 := by decide +kernel
theorem hdV_X9_sizeOf : yX9_sizeOf.cls = RX9 ∧ yX9_sizeOf.cls ≠ "java/lang/invoke/MethodHandle" ∧ yX9_sizeOf.cls ≠ "java/lang/invoke/VarHandle" ∧ (parseMethodDescriptor yX9_sizeOf.desc).map (fun d => d.parameters.length) = some 2 := by decide +kernel
theorem hdV_X9_wallSize : yX9_wallSize.cls = RX9 ∧ yX9_wallSize.cls ≠ "java/lang/invoke/MethodHandle" ∧ yX9_wallSize.cls ≠ "java/lang/invoke/VarHandle" ∧ (parseMethodDescriptor yX9_wallSize.desc).map (fun d => d.parameters.length) = some 1 := by decide +kernel
theorem kp_of {i x : Int32} {a v : Int} (h : cyK i.toNatClampNeg v) (h0 : 0 ≤ i.toInt ∧ i.toInt < 192) (ha : 0 ≤ a) (hx : x.toInt = 192 * a + i.toInt) : kpK x.toNatClampNeg v := by
  have h3 : i.toNatClampNeg = i.toInt.toNat := rfl
  have h4 : x.toNatClampNeg = x.toInt.toNat := rfl
  unfold kpK
  rw [show x.toNatClampNeg % 192 = i.toNatClampNeg from by rw [h3, h4]; omega]
  exact h
theorem cy_of {i x : Int32} {a v : Int} (h : kpK x.toNatClampNeg v) (h0 : 0 ≤ i.toInt ∧ i.toInt < 192) (ha : 0 ≤ a) (hx : x.toInt = 192 * a + i.toInt) : cyK i.toNatClampNeg v := by
  have h3 : i.toNatClampNeg = i.toInt.toNat := rfl
  have h4 : x.toNatClampNeg = x.toInt.toNat := rfl
  unfold kpK at h
  rw [show x.toNatClampNeg % 192 = i.toNatClampNeg from by rw [h3, h4]; omega] at h
  exact h
theorem nar1 : vp_nar .boolean 1 = 1 := by decide
set_option maxHeartbeats 4000000 in
set_option maxRecDepth 100000 in
theorem lp_mimage {p : Program} (l : Launch) {e : Env} {s : State} {m : MethodId} {below : List Frame} {meth : Method} {c : Code} (D : va_G) (cI cZ cC cS : ClassId) (sq : Nat → Nat) (y : Nat) (y_city : Nat) (y_kept : Nat) (y_isKept : Nat) (a : Int32) (m_thrown : Int32) (m_status : Int32) (y_lane : Nat) (y_many : Nat) (y_item : Nat) (y_fresh : Nat) (m_isThere : Int32) (y_tape : Nat) (m_taped : Int32) (m_latest : Int32) (m_length : Int32) (m_cursor : Int32) (m_token : Int32) (m_start : Int32) (m_till : Int32) (m_fault : Int32) (m_faultAt : Int32) (m_seen : Int32) (m_mirrors : Int32) (y_cost : Nat) (y_away : Nat) (y_fee : Nat) (y_goesTo : Nat) (y_priceWas : Nat) (y_trace : Nat) (m_traced : Int32) (cy : Nat → Int32) (kp : Nat → Int32) (ik : Nat → Int32) (hpd_cy : prd cyK 192 cy) (hpd_kp : prd kpK 384 kp) (hax : 0 ≤ a.toInt ∧ a.toInt < 2) {A : Nat → Prop} (X : bX p s m meth c cX9_image 3 wsX9_image yX9_image (some .int) [.ref y, .int a]) (hK : kW D (tyW cI cZ cC cS) sq s) (hT : sT sq A s s.heap) (hA : ∀ q, s.heap.size ≤ q → A q) (K : ∀ (i : Int32) (kp1 : Nat → Int32), (prd cyK 192 cy) → (prd kpK 384 kp1) → (0 ≤ i.toInt ∧ i.toInt ≤ 192) → ∀ (H : Heap) (locs : List Loc) (ls : Array Slot), va_P D vwCl [(y, .inr (9, [.int 0, .int m_status, .ref y_lane, .ref y_many, .ref y_item, .ref y_city, .ref y_fresh, .int m_isThere, .ref y_tape, .int m_taped, .int m_latest, .int m_length, .int m_cursor, .int m_token, .int m_start, .int m_till, .int m_fault, .int m_faultAt, .int m_seen, .int m_mirrors, .ref y_cost, .ref y_away, .ref y_fee, .ref y_goesTo, .ref y_priceWas, .ref y_isKept, .ref y_kept, .ref y_trace, .int m_traced])), (y_city, .inl (cI, 192, .inl cy)), (y_kept, .inl (cI, 384, .inl kp1)), (y_isKept, .inl (cZ, 2, .inl ik))] H → va_D A [(y, .inr (9, [.int 0, .int m_status, .ref y_lane, .ref y_many, .ref y_item, .ref y_city, .ref y_fresh, .int m_isThere, .ref y_tape, .int m_taped, .int m_latest, .int m_length, .int m_cursor, .int m_token, .int m_start, .int m_till, .int m_fault, .int m_faultAt, .int m_seen, .int m_mirrors, .ref y_cost, .ref y_away, .ref y_fee, .ref y_goesTo, .ref y_priceWas, .ref y_isKept, .ref y_kept, .ref y_trace, .int m_traced])), (y_city, .inl (cI, 192, .inl cy)), (y_kept, .inl (cI, 384, .inl kp1)), (y_isKept, .inl (cZ, 2, .inl ik))] → va_S A s.heap H locs → lv_has ls 3 [(2, .int i), (0, .ref y), (1, .int a)] → W p l e (rmW 50 2000 0 0) s m ([.ref y, .int a] : List Value).toArray below meth c H locs 0 0 (MQ below (va_Qi (fun r w => ((¬ (0 ≤ a.toInt ∧ a.toInt < 2)) ∧ r = -1000001 ∧ w = [(y, .inr (9, [.int 0, .int m_status, .ref y_lane, .ref y_many, .ref y_item, .ref y_city, .ref y_fresh, .int m_isThere, .ref y_tape, .int m_taped, .int m_latest, .int m_length, .int m_cursor, .int m_token, .int m_start, .int m_till, .int m_fault, .int m_faultAt, .int m_seen, .int m_mirrors, .ref y_cost, .ref y_away, .ref y_fee, .ref y_goesTo, .ref y_priceWas, .ref y_isKept, .ref y_kept, .ref y_trace, .int m_traced])), (y_city, .inl (cI, 192, .inl cy)), (y_kept, .inl (cI, 384, .inl kp)), (y_isKept, .inl (cZ, 2, .inl ik))]) ∨ ((0 ≤ a.toInt ∧ a.toInt < 2 ∧ m_isThere.toInt = 0) ∧ r = -1000002 ∧ w = [(y, .inr (9, [.int 0, .int m_status, .ref y_lane, .ref y_many, .ref y_item, .ref y_city, .ref y_fresh, .int m_isThere, .ref y_tape, .int m_taped, .int m_latest, .int m_length, .int m_cursor, .int m_token, .int m_start, .int m_till, .int m_fault, .int m_faultAt, .int m_seen, .int m_mirrors, .ref y_cost, .ref y_away, .ref y_fee, .ref y_goesTo, .ref y_priceWas, .ref y_isKept, .ref y_kept, .ref y_trace, .int m_traced])), (y_city, .inl (cI, 192, .inl cy)), (y_kept, .inl (cI, 384, .inl kp)), (y_isKept, .inl (cZ, 2, .inl ik))]) ∨ (∃ (kp2 : Nat → Int32), ∃ (ik2 : Nat → Int32), (prd kpK 384 kp2) ∧ (0 ≤ a.toInt ∧ a.toInt < 2 ∧ ¬ m_isThere.toInt = 0) ∧ (ik2 = upd ik a.toNatClampNeg 1) ∧ r = 1 ∧ w = [(y, .inr (9, [.int 0, .int m_status, .ref y_lane, .ref y_many, .ref y_item, .ref y_city, .ref y_fresh, .int m_isThere, .ref y_tape, .int m_taped, .int m_latest, .int m_length, .int m_cursor, .int m_token, .int m_start, .int m_till, .int m_fault, .int m_faultAt, .int m_seen, .int m_mirrors, .ref y_cost, .ref y_away, .ref y_fee, .ref y_goesTo, .ref y_priceWas, .ref y_isKept, .ref y_kept, .ref y_trace, .int m_traced])), (y_city, .inl (cI, 192, .inl cy)), (y_kept, .inl (cI, 384, .inl kp2)), (y_isKept, .inl (cZ, 2, .inl ik2))])) (wD D A) A) ([.ref y, .int a] : List Value).toArray s 0 0 A) (F0 m 61 ls [])) : ∀ (mN : Nat) (i : Int32) (kp1 : Nat → Int32), (prd cyK 192 cy) → (prd kpK 384 kp1) → (0 ≤ i.toInt ∧ i.toInt ≤ 192) → ((192 - i.toInt).toNat < mN) → ∀ (H : Heap) (locs : List Loc) (ls : Array Slot), va_P D vwCl [(y, .inr (9, [.int 0, .int m_status, .ref y_lane, .ref y_many, .ref y_item, .ref y_city, .ref y_fresh, .int m_isThere, .ref y_tape, .int m_taped, .int m_latest, .int m_length, .int m_cursor, .int m_token, .int m_start, .int m_till, .int m_fault, .int m_faultAt, .int m_seen, .int m_mirrors, .ref y_cost, .ref y_away, .ref y_fee, .ref y_goesTo, .ref y_priceWas, .ref y_isKept, .ref y_kept, .ref y_trace, .int m_traced])), (y_city, .inl (cI, 192, .inl cy)), (y_kept, .inl (cI, 384, .inl kp1)), (y_isKept, .inl (cZ, 2, .inl ik))] H → va_D A [(y, .inr (9, [.int 0, .int m_status, .ref y_lane, .ref y_many, .ref y_item, .ref y_city, .ref y_fresh, .int m_isThere, .ref y_tape, .int m_taped, .int m_latest, .int m_length, .int m_cursor, .int m_token, .int m_start, .int m_till, .int m_fault, .int m_faultAt, .int m_seen, .int m_mirrors, .ref y_cost, .ref y_away, .ref y_fee, .ref y_goesTo, .ref y_priceWas, .ref y_isKept, .ref y_kept, .ref y_trace, .int m_traced])), (y_city, .inl (cI, 192, .inl cy)), (y_kept, .inl (cI, 384, .inl kp1)), (y_isKept, .inl (cZ, 2, .inl ik))] → va_S A s.heap H locs → lv_has ls 3 [(2, .int i), (0, .ref y), (1, .int a)] → W p l e (rmW 50 2000 0 0) s m ([.ref y, .int a] : List Value).toArray below meth c H locs 0 0 (MQ below (va_Qi (fun r w => ((¬ (0 ≤ a.toInt ∧ a.toInt < 2)) ∧ r = -1000001 ∧ w = [(y, .inr (9, [.int 0, .int m_status, .ref y_lane, .ref y_many, .ref y_item, .ref y_city, .ref y_fresh, .int m_isThere, .ref y_tape, .int m_taped, .int m_latest, .int m_length, .int m_cursor, .int m_token, .int m_start, .int m_till, .int m_fault, .int m_faultAt, .int m_seen, .int m_mirrors, .ref y_cost, .ref y_away, .ref y_fee, .ref y_goesTo, .ref y_priceWas, .ref y_isKept, .ref y_kept, .ref y_trace, .int m_traced])), (y_city, .inl (cI, 192, .inl cy)), (y_kept, .inl (cI, 384, .inl kp)), (y_isKept, .inl (cZ, 2, .inl ik))]) ∨ ((0 ≤ a.toInt ∧ a.toInt < 2 ∧ m_isThere.toInt = 0) ∧ r = -1000002 ∧ w = [(y, .inr (9, [.int 0, .int m_status, .ref y_lane, .ref y_many, .ref y_item, .ref y_city, .ref y_fresh, .int m_isThere, .ref y_tape, .int m_taped, .int m_latest, .int m_length, .int m_cursor, .int m_token, .int m_start, .int m_till, .int m_fault, .int m_faultAt, .int m_seen, .int m_mirrors, .ref y_cost, .ref y_away, .ref y_fee, .ref y_goesTo, .ref y_priceWas, .ref y_isKept, .ref y_kept, .ref y_trace, .int m_traced])), (y_city, .inl (cI, 192, .inl cy)), (y_kept, .inl (cI, 384, .inl kp)), (y_isKept, .inl (cZ, 2, .inl ik))]) ∨ (∃ (kp2 : Nat → Int32), ∃ (ik2 : Nat → Int32), (prd kpK 384 kp2) ∧ (0 ≤ a.toInt ∧ a.toInt < 2 ∧ ¬ m_isThere.toInt = 0) ∧ (ik2 = upd ik a.toNatClampNeg 1) ∧ r = 1 ∧ w = [(y, .inr (9, [.int 0, .int m_status, .ref y_lane, .ref y_many, .ref y_item, .ref y_city, .ref y_fresh, .int m_isThere, .ref y_tape, .int m_taped, .int m_latest, .int m_length, .int m_cursor, .int m_token, .int m_start, .int m_till, .int m_fault, .int m_faultAt, .int m_seen, .int m_mirrors, .ref y_cost, .ref y_away, .ref y_fee, .ref y_goesTo, .ref y_priceWas, .ref y_isKept, .ref y_kept, .ref y_trace, .int m_traced])), (y_city, .inl (cI, 192, .inl cy)), (y_kept, .inl (cI, 384, .inl kp2)), (y_isKept, .inl (cZ, 2, .inl ik2))])) (wD D A) A) ([.ref y, .int a] : List Value).toArray s 0 0 A) (F0 m 30 ls []) := by
  have S : CallFix p m c cX9_image 3 s ([.ref y, .int a] : List Value).toArray wsX9_image RX9 := X.1
  have iX9 := jX9_image_X9
  intro mN
  induction mN with
  | zero => intro i kp1 hpd_cy hpd_kp1 hi hm; exact absurd hm (Nat.not_lt_zero _)
  | succ mN ih =>
    intro i kp1 hpd_cy hpd_kp1 hi hm H locs ls hP hD hS hl
    refine lv_iload_n S.1 S.2.1 dX9_image_30 rfl (lv_at hl 0 rfl) ?_
    refine lv_sipush (v := (192)) S.1 S.2.1 dX9_image_31 (by decide) ?_
    refine lv_icmp_ge (tgt := 61) S.1 S.2.1 dX9_image_34 (by decide) (fun c_101 => ?_) (fun c_101 => ?_)
    · rw [le2 (a := 192) (b := i) (A := 192) (B := i.toInt) rfl rfl] at c_101
      exact K i kp1 (by first | assumption | omega | decide | (rw [show Int32.toInt 0 = 0 from rfl]; omega)) (by first | assumption | omega | decide | (rw [show Int32.toInt 0 = 0 from rfl]; omega)) (by first | assumption | omega | decide | (rw [show Int32.toInt 0 = 0 from rfl]; omega)) H _ ls hP hD hS (lv_sub hl [0, 1, 2] rfl)
    · rw [le2 (a := 192) (b := i) (A := 192) (B := i.toInt) rfl rfl] at c_101
      refine lv_aload_n S.1 S.2.1 dX9_image_37 rfl (lv_at hl 1 rfl) ?_
      refine b_get (v := .ref y_kept) S iX9 hK hP 0 rfl rfl 26 (by decide) (by decide +kernel) rfl dX9_image_38 ?_
      refine lv_sipush (v := (192)) S.1 S.2.1 dX9_image_41 (by decide) ?_
      refine lv_iload_n S.1 S.2.1 dX9_image_44 rfl (lv_at hl 2 rfl) ?_
      refine lv_imul S.1 S.2.1 dX9_image_45 ?_
      refine lv_topi (fun x_102 ex_102 => ?_)
      have tx_102 : x_102.toInt = 192 * a.toInt := mulI (A := 192) (B := a.toInt) ex_102 rfl rfl (by omega) (by omega)
      refine lv_iload_n S.1 S.2.1 dX9_image_46 rfl (lv_at hl 0 rfl) ?_
      refine lv_iadd S.1 S.2.1 dX9_image_47 ?_
      refine lv_topi (fun x_103 ex_103 => ?_)
      have tx_103 : x_103.toInt = x_102.toInt + (i.toInt) := addI (A := x_102.toInt) (B := i.toInt) ex_103 rfl rfl (by omega) (by omega)
      refine lv_aload_n S.1 S.2.1 dX9_image_48 rfl (lv_at hl 1 rfl) ?_
      refine b_get (v := .ref y_city) S iX9 hK hP 0 rfl rfl 5 (by decide) (by decide +kernel) rfl dX9_image_49 ?_
      refine lv_iload_n S.1 S.2.1 dX9_image_52 rfl (lv_at hl 0 rfl) ?_
      have hin_104 : vp_in i 192 := (in_of (n := 192) (by omega) (by omega))
      refine va_iald S.1 S.2.1 hK.1 hP 1 0 rfl rfl hin_104 dX9_image_53 ?_
      refine lv_topi (fun x_105 ex_105 => ?_)
      refine va_iast S.1 S.2.1 hK.1 hP hD hS 2 0 rfl rfl (in_of (n := 384) (by omega) (by omega)) dX9_image_54 (fun H locs hP hD hS => ?_)
      obtain ⟨f_106, hf_106, rf_106⟩ : ∃ g, (upd kp1 x_103.toNatClampNeg (x_105)) = g ∧ prd kpK 384 g := ⟨_, rfl, prd_upd (by assumption) (kp_of (i := i) (x := x_103) (a := a.toInt) (prd_get (show prd cyK 192 cy by assumption) (by omega) (by omega) (by assumption)) (by omega) (by omega) (by omega))⟩
      have hP : va_P D vwCl [(y, .inr (9, [.int 0, .int m_status, .ref y_lane, .ref y_many, .ref y_item, .ref y_city, .ref y_fresh, .int m_isThere, .ref y_tape, .int m_taped, .int m_latest, .int m_length, .int m_cursor, .int m_token, .int m_start, .int m_till, .int m_fault, .int m_faultAt, .int m_seen, .int m_mirrors, .ref y_cost, .ref y_away, .ref y_fee, .ref y_goesTo, .ref y_priceWas, .ref y_isKept, .ref y_kept, .ref y_trace, .int m_traced])), (y_city, .inl (cI, 192, .inl cy)), (y_kept, .inl (cI, 384, .inl (upd kp1 x_103.toNatClampNeg (x_105)))), (y_isKept, .inl (cZ, 2, .inl ik))] H := hP
      have hD : va_D A [(y, .inr (9, [.int 0, .int m_status, .ref y_lane, .ref y_many, .ref y_item, .ref y_city, .ref y_fresh, .int m_isThere, .ref y_tape, .int m_taped, .int m_latest, .int m_length, .int m_cursor, .int m_token, .int m_start, .int m_till, .int m_fault, .int m_faultAt, .int m_seen, .int m_mirrors, .ref y_cost, .ref y_away, .ref y_fee, .ref y_goesTo, .ref y_priceWas, .ref y_isKept, .ref y_kept, .ref y_trace, .int m_traced])), (y_city, .inl (cI, 192, .inl cy)), (y_kept, .inl (cI, 384, .inl (upd kp1 x_103.toNatClampNeg (x_105)))), (y_isKept, .inl (cZ, 2, .inl ik))] := hD
      rw [hf_106] at hP hD
      obtain ⟨x_107, ex_107⟩ : ∃ y : Int32, y = i + Int32.ofInt (1) := ⟨_, rfl⟩
      refine lv_iinc (v := x_107) (lv' := [(2, .int x_107), (0, .ref y), (1, .int a)]) S.1 S.2.1 dX9_image_55 hl (k := 0) rfl ex_107.symm (by decide) rfl (fun ls hl => ?_)
      have tx_107 : x_107.toInt = i.toInt + (1) := addI (A := i.toInt) (B := 1) ex_107 rfl rfl (by omega) (by omega)
      refine lv_goto (tgt := 30) S.1 S.2.1 dX9_image_58 (by decide) ?_
      exact ih x_107 f_106 (by first | assumption | omega | decide | (rw [show Int32.toInt 0 = 0 from rfl]; omega)) (by first | assumption | omega | decide | (rw [show Int32.toInt 0 = 0 from rfl]; omega)) (by first | assumption | omega | decide | (rw [show Int32.toInt 0 = 0 from rfl]; omega)) (by omega) H _ ls hP hD hS (lv_sub hl [0, 1, 2] rfl)
set_option maxHeartbeats 4000000 in
set_option maxRecDepth 100000 in
theorem s_X9_image (l : Launch) (D : va_G) (cI cZ cC cS : ClassId) (sq : Nat → Nat) (sz : Nat) (y : Nat) (y_city : Nat) (y_kept : Nat) (y_isKept : Nat) (a : Int32) (m_thrown : Int32) (m_status : Int32) (y_lane : Nat) (y_many : Nat) (y_item : Nat) (y_fresh : Nat) (m_isThere : Int32) (y_tape : Nat) (m_taped : Int32) (m_latest : Int32) (m_length : Int32) (m_cursor : Int32) (m_token : Int32) (m_start : Int32) (m_till : Int32) (m_fault : Int32) (m_faultAt : Int32) (m_seen : Int32) (m_mirrors : Int32) (y_cost : Nat) (y_away : Nat) (y_fee : Nat) (y_goesTo : Nat) (y_priceWas : Nat) (y_trace : Nat) (m_traced : Int32) (cy : Nat → Int32) (kp : Nat → Int32) (ik : Nat → Int32) (hpd_cy : prd cyK 192 cy) (hpd_kp : prd kpK 384 kp) : mI l yX9_image wsX9_image 50 2000 D (tyW cI cZ cC cS) sq [(y, .inr (9, [.int m_thrown, .int m_status, .ref y_lane, .ref y_many, .ref y_item, .ref y_city, .ref y_fresh, .int m_isThere, .ref y_tape, .int m_taped, .int m_latest, .int m_length, .int m_cursor, .int m_token, .int m_start, .int m_till, .int m_fault, .int m_faultAt, .int m_seen, .int m_mirrors, .ref y_cost, .ref y_away, .ref y_fee, .ref y_goesTo, .ref y_priceWas, .ref y_isKept, .ref y_kept, .ref y_trace, .int m_traced])), (y_city, .inl (cI, 192, .inl cy)), (y_kept, .inl (cI, 384, .inl kp)), (y_isKept, .inl (cZ, 2, .inl ik))] sz [.ref y, .int a] (fun r w => ((¬ (0 ≤ a.toInt ∧ a.toInt < 2)) ∧ r = -1000001 ∧ w = [(y, .inr (9, [.int 0, .int m_status, .ref y_lane, .ref y_many, .ref y_item, .ref y_city, .ref y_fresh, .int m_isThere, .ref y_tape, .int m_taped, .int m_latest, .int m_length, .int m_cursor, .int m_token, .int m_start, .int m_till, .int m_fault, .int m_faultAt, .int m_seen, .int m_mirrors, .ref y_cost, .ref y_away, .ref y_fee, .ref y_goesTo, .ref y_priceWas, .ref y_isKept, .ref y_kept, .ref y_trace, .int m_traced])), (y_city, .inl (cI, 192, .inl cy)), (y_kept, .inl (cI, 384, .inl kp)), (y_isKept, .inl (cZ, 2, .inl ik))]) ∨ ((0 ≤ a.toInt ∧ a.toInt < 2 ∧ m_isThere.toInt = 0) ∧ r = -1000002 ∧ w = [(y, .inr (9, [.int 0, .int m_status, .ref y_lane, .ref y_many, .ref y_item, .ref y_city, .ref y_fresh, .int m_isThere, .ref y_tape, .int m_taped, .int m_latest, .int m_length, .int m_cursor, .int m_token, .int m_start, .int m_till, .int m_fault, .int m_faultAt, .int m_seen, .int m_mirrors, .ref y_cost, .ref y_away, .ref y_fee, .ref y_goesTo, .ref y_priceWas, .ref y_isKept, .ref y_kept, .ref y_trace, .int m_traced])), (y_city, .inl (cI, 192, .inl cy)), (y_kept, .inl (cI, 384, .inl kp)), (y_isKept, .inl (cZ, 2, .inl ik))]) ∨ (∃ (kp2 : Nat → Int32), ∃ (ik2 : Nat → Int32), (prd kpK 384 kp2) ∧ (0 ≤ a.toInt ∧ a.toInt < 2 ∧ ¬ m_isThere.toInt = 0) ∧ (ik2 = upd ik a.toNatClampNeg 1) ∧ r = 1 ∧ w = [(y, .inr (9, [.int 0, .int m_status, .ref y_lane, .ref y_many, .ref y_item, .ref y_city, .ref y_fresh, .int m_isThere, .ref y_tape, .int m_taped, .int m_latest, .int m_length, .int m_cursor, .int m_token, .int m_start, .int m_till, .int m_fault, .int m_faultAt, .int m_seen, .int m_mirrors, .ref y_cost, .ref y_away, .ref y_fee, .ref y_goesTo, .ref y_priceWas, .ref y_isKept, .ref y_kept, .ref y_trace, .int m_traced])), (y_city, .inl (cI, 192, .inl cy)), (y_kept, .inl (cI, 384, .inl kp2)), (y_isKept, .inl (cZ, 2, .inl ik2))])) := by
  refine b_metI (cc := cX9_image) (maxL := 3) (ret := (some .int)) (by decide) rfl (Nat.le_of_ble_eq_true rfl) ?_
  intro p e s m below meth c ls A H X hsz hP hK hT hD hA hS hl
  have S : CallFix p m c cX9_image 3 s ([.ref y, .int a] : List Value).toArray wsX9_image RX9 := X.1
  have hl : lv_has ls 3 [(0, .ref y), (1, .int a)] := hl
  have iX9 := jX9_image_X9
  refine lv_aload_n S.1 S.2.1 dX9_image_0 rfl (lv_at hl 0 rfl) ?_
  refine lv_iconst (v := (0)) S.1 S.2.1 dX9_image_1 (by decide) ?_
  refine b_put (v := .int 0) S iX9 tyX9 tyX9_ok nmX9 hK hP hD hS 0 rfl rfl 0 (by decide) (by decide +kernel) rfl rfl rfl (Nat.le_of_ble_eq_true rfl) dX9_image_2 (fun H locs hP hD hS => ?_)
  have hP : va_P D vwCl [(y, .inr (9, [.int 0, .int m_status, .ref y_lane, .ref y_many, .ref y_item, .ref y_city, .ref y_fresh, .int m_isThere, .ref y_tape, .int m_taped, .int m_latest, .int m_length, .int m_cursor, .int m_token, .int m_start, .int m_till, .int m_fault, .int m_faultAt, .int m_seen, .int m_mirrors, .ref y_cost, .ref y_away, .ref y_fee, .ref y_goesTo, .ref y_priceWas, .ref y_isKept, .ref y_kept, .ref y_trace, .int m_traced])), (y_city, .inl (cI, 192, .inl cy)), (y_kept, .inl (cI, 384, .inl kp)), (y_isKept, .inl (cZ, 2, .inl ik))] H := hP
  have hD : va_D A [(y, .inr (9, [.int 0, .int m_status, .ref y_lane, .ref y_many, .ref y_item, .ref y_city, .ref y_fresh, .int m_isThere, .ref y_tape, .int m_taped, .int m_latest, .int m_length, .int m_cursor, .int m_token, .int m_start, .int m_till, .int m_fault, .int m_faultAt, .int m_seen, .int m_mirrors, .ref y_cost, .ref y_away, .ref y_fee, .ref y_goesTo, .ref y_priceWas, .ref y_isKept, .ref y_kept, .ref y_trace, .int m_traced])), (y_city, .inl (cI, 192, .inl cy)), (y_kept, .inl (cI, 384, .inl kp)), (y_isKept, .inl (cZ, 2, .inl ik))] := hD
  refine lv_iload_n S.1 S.2.1 dX9_image_5 rfl (lv_at hl 1 rfl) ?_
  refine lv_i2l (v := a.toInt64) S.1 S.2.1 dX9_image_6 rfl ?_
  refine lv_lconst (v := 0) S.1 S.2.1 dX9_image_7 (by decide) ?_
  refine lv_lconst (v := 1) S.1 S.2.1 dX9_image_8 (by decide) ?_
  refine b_ai (wr := [(y, .inr (9, [.int 0, .int m_status, .ref y_lane, .ref y_many, .ref y_item, .ref y_city, .ref y_fresh, .int m_isThere, .ref y_tape, .int m_taped, .int m_latest, .int m_length, .int m_cursor, .int m_token, .int m_start, .int m_till, .int m_fault, .int m_faultAt, .int m_seen, .int m_mirrors, .ref y_cost, .ref y_away, .ref y_fee, .ref y_goesTo, .ref y_priceWas, .ref y_isKept, .ref y_kept, .ref y_trace, .int m_traced])), (y_city, .inl (cI, 192, .inl cy)), (y_kept, .inl (cI, 384, .inl kp)), (y_isKept, .inl (cZ, 2, .inl ik))]) (b_runS (As := [.long (a.toInt64), .long 0, .long 1]) (s_X9_in l D cI cZ cC cS sq H.size (a.toInt64) (0) (1)) S gX9_image_X9_in rfl hdS_X9_in ⟨Nat.le_of_ble_eq_true rfl, Nat.le_of_ble_eq_true rfl⟩ ⟨Nat.le_of_ble_eq_true rfl, Nat.le_of_ble_eq_true rfl⟩ hK hT hS hA hP hD [] rfl (by decide) rfl hl.1 rfl (Nat.le_of_ble_eq_true rfl) dX9_image_9) hP hD hS hA [] [0, 1, 2, 3] rfl rfl (by decide) (by decide) (fun r_1 w_2 H locs hw_3 hP hD hS => ?_)
  rcases hw_3 with ⟨hf_4, rfl, rfl⟩ | ⟨hf_5, rfl, rfl⟩
  · have hf_4 : (0) ≤ a.toInt ∧ a.toInt ≤ (1) := by simp only [Int32.toInt_toInt64] at hf_4; exact hf_4
    have hP : va_P D vwCl [(y, .inr (9, [.int 0, .int m_status, .ref y_lane, .ref y_many, .ref y_item, .ref y_city, .ref y_fresh, .int m_isThere, .ref y_tape, .int m_taped, .int m_latest, .int m_length, .int m_cursor, .int m_token, .int m_start, .int m_till, .int m_fault, .int m_faultAt, .int m_seen, .int m_mirrors, .ref y_cost, .ref y_away, .ref y_fee, .ref y_goesTo, .ref y_priceWas, .ref y_isKept, .ref y_kept, .ref y_trace, .int m_traced])), (y_city, .inl (cI, 192, .inl cy)), (y_kept, .inl (cI, 384, .inl kp)), (y_isKept, .inl (cZ, 2, .inl ik))] H := hP
    have hD : va_D A [(y, .inr (9, [.int 0, .int m_status, .ref y_lane, .ref y_many, .ref y_item, .ref y_city, .ref y_fresh, .int m_isThere, .ref y_tape, .int m_taped, .int m_latest, .int m_length, .int m_cursor, .int m_token, .int m_start, .int m_till, .int m_fault, .int m_faultAt, .int m_seen, .int m_mirrors, .ref y_cost, .ref y_away, .ref y_fee, .ref y_goesTo, .ref y_priceWas, .ref y_isKept, .ref y_kept, .ref y_trace, .int m_traced])), (y_city, .inl (cI, 192, .inl cy)), (y_kept, .inl (cI, 384, .inl kp)), (y_isKept, .inl (cZ, 2, .inl ik))] := hD
    refine lv_if_ne (tgt := 18) S.1 S.2.1 dX9_image_12 (by decide) (fun c_6 => ?_) (fun c_6 => absurd c_6 (by decide))
    refine lv_aload_n S.1 S.2.1 dX9_image_18 rfl (lv_at hl 0 rfl) ?_
    refine b_get (v := .int m_isThere) S iX9 hK hP 0 rfl rfl 7 (by decide) (by decide +kernel) rfl dX9_image_19 ?_
    refine lv_if_ne (tgt := 28) S.1 S.2.1 dX9_image_22 (by decide) (fun c_7 => ?_) (fun c_7 => ?_)
    · rw [eq2 (a := m_isThere) (b := 0) (A := m_isThere.toInt) (B := 0) rfl rfl] at c_7
      refine lv_iconst (v := (0)) S.1 S.2.1 dX9_image_28 (by decide) ?_
      refine lv_istore_n (lv' := [(2, .int 0), (0, .ref y), (1, .int a)]) S.1 S.2.1 dX9_image_29 rfl hl (by decide) rfl (fun ls hl => ?_)
      refine lp_mimage l D cI cZ cC cS sq y y_city y_kept y_isKept a m_thrown m_status y_lane y_many y_item y_fresh m_isThere y_tape m_taped m_latest m_length m_cursor m_token m_start m_till m_fault m_faultAt m_seen m_mirrors y_cost y_away y_fee y_goesTo y_priceWas y_trace m_traced cy kp ik hpd_cy hpd_kp (by first | assumption | omega | decide | (rw [show Int32.toInt 0 = 0 from rfl]; omega)) X hK hT hA (fun i_8 kp1_9 hi_10 hi_11 hi_12 H locs ls hP hD hS hl => ?_) _ (0) kp (by first | assumption | omega | decide | (rw [show Int32.toInt 0 = 0 from rfl]; omega)) (by first | assumption | omega | decide | (rw [show Int32.toInt 0 = 0 from rfl]; omega)) (by first | assumption | omega | decide | (rw [show Int32.toInt 0 = 0 from rfl]; omega)) (Nat.lt_succ_self _) H _ ls hP hD hS (lv_sub hl [0, 1, 2] rfl)
      refine lv_aload_n S.1 S.2.1 dX9_image_61 rfl (lv_at hl 1 rfl) ?_
      refine b_get (v := .ref y_isKept) S iX9 hK hP 0 rfl rfl 25 (by decide) (by decide +kernel) rfl dX9_image_62 ?_
      refine lv_iload_n S.1 S.2.1 dX9_image_65 rfl (lv_at hl 2 rfl) ?_
      refine lv_iconst (v := (1)) S.1 S.2.1 dX9_image_66 (by decide) ?_
      refine va_zast S.1 S.2.1 hK.1 hP hD hS 3 1 rfl rfl (in_of (n := 2) (by omega) (by omega)) dX9_image_67 (fun H locs hP hD hS => ?_)
      obtain ⟨f_13, hf_13⟩ : ∃ g, (upd ik a.toNatClampNeg (vp_nar .boolean (1))) = g := ⟨_, rfl⟩
      have hP : va_P D vwCl [(y, .inr (9, [.int 0, .int m_status, .ref y_lane, .ref y_many, .ref y_item, .ref y_city, .ref y_fresh, .int m_isThere, .ref y_tape, .int m_taped, .int m_latest, .int m_length, .int m_cursor, .int m_token, .int m_start, .int m_till, .int m_fault, .int m_faultAt, .int m_seen, .int m_mirrors, .ref y_cost, .ref y_away, .ref y_fee, .ref y_goesTo, .ref y_priceWas, .ref y_isKept, .ref y_kept, .ref y_trace, .int m_traced])), (y_city, .inl (cI, 192, .inl cy)), (y_kept, .inl (cI, 384, .inl kp1_9)), (y_isKept, .inl (cZ, 2, .inl (upd ik a.toNatClampNeg (vp_nar .boolean (1)))))] H := hP
      have hD : va_D A [(y, .inr (9, [.int 0, .int m_status, .ref y_lane, .ref y_many, .ref y_item, .ref y_city, .ref y_fresh, .int m_isThere, .ref y_tape, .int m_taped, .int m_latest, .int m_length, .int m_cursor, .int m_token, .int m_start, .int m_till, .int m_fault, .int m_faultAt, .int m_seen, .int m_mirrors, .ref y_cost, .ref y_away, .ref y_fee, .ref y_goesTo, .ref y_priceWas, .ref y_isKept, .ref y_kept, .ref y_trace, .int m_traced])), (y_city, .inl (cI, 192, .inl cy)), (y_kept, .inl (cI, 384, .inl kp1_9)), (y_isKept, .inl (cZ, 2, .inl (upd ik a.toNatClampNeg (vp_nar .boolean (1)))))] := hD
      rw [hf_13] at hP hD
      refine lv_iconst (v := (1)) S.1 S.2.1 dX9_image_68 (by decide) ?_
      exact b_iret S.1 S.2.1 X.2.1 X.2.2.1 hP hD hS (Or.inr (Or.inr (⟨kp1_9, f_13, (by first | assumption | omega | decide | (rw [show Int32.toInt 0 = 0 from rfl]; omega)), (by first | assumption | omega | decide | (rw [show Int32.toInt 0 = 0 from rfl]; omega)), (by first | exact Eq.symm (by assumption) | (rw [← nar1]; exact Eq.symm (by assumption))), rfl, rfl⟩))) dX9_image_69
    · rw [eq2 (a := m_isThere) (b := 0) (A := m_isThere.toInt) (B := 0) rfl rfl] at c_7
      refine lv_ldc (v := (-1000002)) S.1 S.2.1 S.2.2.2.1 (S.2.2.2.2 (.constant RX9 233 (-1000002)) (by decide +kernel)) dX9_image_25 ?_
      exact b_iret S.1 S.2.1 X.2.1 X.2.2.1 hP hD hS (Or.inr (Or.inl ⟨(by first | assumption | omega | decide | (rw [show Int32.toInt 0 = 0 from rfl]; omega)), rfl, rfl⟩)) dX9_image_27
  · have hf_5 : a.toInt < (0) ∨ (1) < a.toInt := by simp only [Int32.toInt_toInt64] at hf_5; exact hf_5
    have hP : va_P D vwCl [(y, .inr (9, [.int 0, .int m_status, .ref y_lane, .ref y_many, .ref y_item, .ref y_city, .ref y_fresh, .int m_isThere, .ref y_tape, .int m_taped, .int m_latest, .int m_length, .int m_cursor, .int m_token, .int m_start, .int m_till, .int m_fault, .int m_faultAt, .int m_seen, .int m_mirrors, .ref y_cost, .ref y_away, .ref y_fee, .ref y_goesTo, .ref y_priceWas, .ref y_isKept, .ref y_kept, .ref y_trace, .int m_traced])), (y_city, .inl (cI, 192, .inl cy)), (y_kept, .inl (cI, 384, .inl kp)), (y_isKept, .inl (cZ, 2, .inl ik))] H := hP
    have hD : va_D A [(y, .inr (9, [.int 0, .int m_status, .ref y_lane, .ref y_many, .ref y_item, .ref y_city, .ref y_fresh, .int m_isThere, .ref y_tape, .int m_taped, .int m_latest, .int m_length, .int m_cursor, .int m_token, .int m_start, .int m_till, .int m_fault, .int m_faultAt, .int m_seen, .int m_mirrors, .ref y_cost, .ref y_away, .ref y_fee, .ref y_goesTo, .ref y_priceWas, .ref y_isKept, .ref y_kept, .ref y_trace, .int m_traced])), (y_city, .inl (cI, 192, .inl cy)), (y_kept, .inl (cI, 384, .inl kp)), (y_isKept, .inl (cZ, 2, .inl ik))] := hD
    refine lv_if_ne (tgt := 18) S.1 S.2.1 dX9_image_12 (by decide) (fun c_14 => absurd c_14 (by decide)) (fun c_14 => ?_)
    refine lv_ldc (v := (-1000001)) S.1 S.2.1 S.2.2.2.1 (S.2.2.2.2 (.constant RX9 73 (-1000001)) (by decide +kernel)) dX9_image_15 ?_
    exact b_iret S.1 S.2.1 X.2.1 X.2.2.1 hP hD hS (Or.inl ⟨(by first | assumption | omega | decide | (rw [show Int32.toInt 0 = 0 from rfl]; omega)), rfl, rfl⟩) dX9_image_17
set_option maxHeartbeats 4000000 in
set_option maxRecDepth 100000 in
theorem lp_mrestore {p : Program} (l : Launch) {e : Env} {s : State} {m : MethodId} {below : List Frame} {meth : Method} {c : Code} (D : va_G) (cI cZ cC cS : ClassId) (sq : Nat → Nat) (y : Nat) (y_city : Nat) (y_kept : Nat) (y_isKept : Nat) (a : Int32) (m_thrown : Int32) (m_status : Int32) (y_lane : Nat) (y_many : Nat) (y_item : Nat) (y_fresh : Nat) (m_isThere : Int32) (y_tape : Nat) (m_taped : Int32) (m_latest : Int32) (m_length : Int32) (m_cursor : Int32) (m_token : Int32) (m_start : Int32) (m_till : Int32) (m_fault : Int32) (m_faultAt : Int32) (m_seen : Int32) (m_mirrors : Int32) (y_cost : Nat) (y_away : Nat) (y_fee : Nat) (y_goesTo : Nat) (y_priceWas : Nat) (y_trace : Nat) (m_traced : Int32) (cy : Nat → Int32) (kp : Nat → Int32) (ik : Nat → Int32) (hpd_cy : prd cyK 192 cy) (hpd_kp : prd kpK 384 kp) (hax : 0 ≤ a.toInt ∧ a.toInt < 2) {A : Nat → Prop} (X : bX p s m meth c cX9_restore 3 wsX9_restore yX9_restore (some .int) [.ref y, .int a]) (hK : kW D (tyW cI cZ cC cS) sq s) (hT : sT sq A s s.heap) (hA : ∀ q, s.heap.size ≤ q → A q) (K : ∀ (i : Int32) (cy1 : Nat → Int32), (prd cyK 192 cy1) → (prd kpK 384 kp) → (0 ≤ i.toInt ∧ i.toInt ≤ 192) → ∀ (H : Heap) (locs : List Loc) (ls : Array Slot), va_P D vwCl [(y, .inr (9, [.int 0, .int m_status, .ref y_lane, .ref y_many, .ref y_item, .ref y_city, .ref y_fresh, .int m_isThere, .ref y_tape, .int m_taped, .int m_latest, .int m_length, .int m_cursor, .int m_token, .int m_start, .int m_till, .int m_fault, .int m_faultAt, .int m_seen, .int m_mirrors, .ref y_cost, .ref y_away, .ref y_fee, .ref y_goesTo, .ref y_priceWas, .ref y_isKept, .ref y_kept, .ref y_trace, .int m_traced])), (y_city, .inl (cI, 192, .inl cy1)), (y_kept, .inl (cI, 384, .inl kp)), (y_isKept, .inl (cZ, 2, .inl ik))] H → va_D A [(y, .inr (9, [.int 0, .int m_status, .ref y_lane, .ref y_many, .ref y_item, .ref y_city, .ref y_fresh, .int m_isThere, .ref y_tape, .int m_taped, .int m_latest, .int m_length, .int m_cursor, .int m_token, .int m_start, .int m_till, .int m_fault, .int m_faultAt, .int m_seen, .int m_mirrors, .ref y_cost, .ref y_away, .ref y_fee, .ref y_goesTo, .ref y_priceWas, .ref y_isKept, .ref y_kept, .ref y_trace, .int m_traced])), (y_city, .inl (cI, 192, .inl cy1)), (y_kept, .inl (cI, 384, .inl kp)), (y_isKept, .inl (cZ, 2, .inl ik))] → va_S A s.heap H locs → lv_has ls 3 [(2, .int i), (0, .ref y), (1, .int a)] → W p l e (rmW 50 2000 0 0) s m ([.ref y, .int a] : List Value).toArray below meth c H locs 0 0 (MQ below (va_Qi (fun r w => ((¬ (0 ≤ a.toInt ∧ a.toInt < 2)) ∧ r = -1000001 ∧ w = [(y, .inr (9, [.int 0, .int m_status, .ref y_lane, .ref y_many, .ref y_item, .ref y_city, .ref y_fresh, .int m_isThere, .ref y_tape, .int m_taped, .int m_latest, .int m_length, .int m_cursor, .int m_token, .int m_start, .int m_till, .int m_fault, .int m_faultAt, .int m_seen, .int m_mirrors, .ref y_cost, .ref y_away, .ref y_fee, .ref y_goesTo, .ref y_priceWas, .ref y_isKept, .ref y_kept, .ref y_trace, .int m_traced])), (y_city, .inl (cI, 192, .inl cy)), (y_kept, .inl (cI, 384, .inl kp)), (y_isKept, .inl (cZ, 2, .inl ik))]) ∨ ((0 ≤ a.toInt ∧ a.toInt < 2 ∧ (ik a.toNatClampNeg).toInt = 0) ∧ r = -1000002 ∧ w = [(y, .inr (9, [.int 0, .int m_status, .ref y_lane, .ref y_many, .ref y_item, .ref y_city, .ref y_fresh, .int m_isThere, .ref y_tape, .int m_taped, .int m_latest, .int m_length, .int m_cursor, .int m_token, .int m_start, .int m_till, .int m_fault, .int m_faultAt, .int m_seen, .int m_mirrors, .ref y_cost, .ref y_away, .ref y_fee, .ref y_goesTo, .ref y_priceWas, .ref y_isKept, .ref y_kept, .ref y_trace, .int m_traced])), (y_city, .inl (cI, 192, .inl cy)), (y_kept, .inl (cI, 384, .inl kp)), (y_isKept, .inl (cZ, 2, .inl ik))]) ∨ (∃ (cy2 : Nat → Int32), (prd cyK 192 cy2) ∧ (0 ≤ a.toInt ∧ a.toInt < 2 ∧ ¬ (ik a.toNatClampNeg).toInt = 0) ∧ r = 1 ∧ w = [(y, .inr (9, [.int 0, .int m_status, .ref y_lane, .ref y_many, .ref y_item, .ref y_city, .ref y_fresh, .int m_isThere, .ref y_tape, .int m_taped, .int m_latest, .int m_length, .int m_cursor, .int m_token, .int m_start, .int m_till, .int m_fault, .int m_faultAt, .int m_seen, .int m_mirrors, .ref y_cost, .ref y_away, .ref y_fee, .ref y_goesTo, .ref y_priceWas, .ref y_isKept, .ref y_kept, .ref y_trace, .int m_traced])), (y_city, .inl (cI, 192, .inl cy2)), (y_kept, .inl (cI, 384, .inl kp)), (y_isKept, .inl (cZ, 2, .inl ik))])) (wD D A) A) ([.ref y, .int a] : List Value).toArray s 0 0 A) (F0 m 63 ls [])) : ∀ (mN : Nat) (i : Int32) (cy1 : Nat → Int32), (prd cyK 192 cy1) → (prd kpK 384 kp) → (0 ≤ i.toInt ∧ i.toInt ≤ 192) → ((192 - i.toInt).toNat < mN) → ∀ (H : Heap) (locs : List Loc) (ls : Array Slot), va_P D vwCl [(y, .inr (9, [.int 0, .int m_status, .ref y_lane, .ref y_many, .ref y_item, .ref y_city, .ref y_fresh, .int m_isThere, .ref y_tape, .int m_taped, .int m_latest, .int m_length, .int m_cursor, .int m_token, .int m_start, .int m_till, .int m_fault, .int m_faultAt, .int m_seen, .int m_mirrors, .ref y_cost, .ref y_away, .ref y_fee, .ref y_goesTo, .ref y_priceWas, .ref y_isKept, .ref y_kept, .ref y_trace, .int m_traced])), (y_city, .inl (cI, 192, .inl cy1)), (y_kept, .inl (cI, 384, .inl kp)), (y_isKept, .inl (cZ, 2, .inl ik))] H → va_D A [(y, .inr (9, [.int 0, .int m_status, .ref y_lane, .ref y_many, .ref y_item, .ref y_city, .ref y_fresh, .int m_isThere, .ref y_tape, .int m_taped, .int m_latest, .int m_length, .int m_cursor, .int m_token, .int m_start, .int m_till, .int m_fault, .int m_faultAt, .int m_seen, .int m_mirrors, .ref y_cost, .ref y_away, .ref y_fee, .ref y_goesTo, .ref y_priceWas, .ref y_isKept, .ref y_kept, .ref y_trace, .int m_traced])), (y_city, .inl (cI, 192, .inl cy1)), (y_kept, .inl (cI, 384, .inl kp)), (y_isKept, .inl (cZ, 2, .inl ik))] → va_S A s.heap H locs → lv_has ls 3 [(2, .int i), (0, .ref y), (1, .int a)] → W p l e (rmW 50 2000 0 0) s m ([.ref y, .int a] : List Value).toArray below meth c H locs 0 0 (MQ below (va_Qi (fun r w => ((¬ (0 ≤ a.toInt ∧ a.toInt < 2)) ∧ r = -1000001 ∧ w = [(y, .inr (9, [.int 0, .int m_status, .ref y_lane, .ref y_many, .ref y_item, .ref y_city, .ref y_fresh, .int m_isThere, .ref y_tape, .int m_taped, .int m_latest, .int m_length, .int m_cursor, .int m_token, .int m_start, .int m_till, .int m_fault, .int m_faultAt, .int m_seen, .int m_mirrors, .ref y_cost, .ref y_away, .ref y_fee, .ref y_goesTo, .ref y_priceWas, .ref y_isKept, .ref y_kept, .ref y_trace, .int m_traced])), (y_city, .inl (cI, 192, .inl cy)), (y_kept, .inl (cI, 384, .inl kp)), (y_isKept, .inl (cZ, 2, .inl ik))]) ∨ ((0 ≤ a.toInt ∧ a.toInt < 2 ∧ (ik a.toNatClampNeg).toInt = 0) ∧ r = -1000002 ∧ w = [(y, .inr (9, [.int 0, .int m_status, .ref y_lane, .ref y_many, .ref y_item, .ref y_city, .ref y_fresh, .int m_isThere, .ref y_tape, .int m_taped, .int m_latest, .int m_length, .int m_cursor, .int m_token, .int m_start, .int m_till, .int m_fault, .int m_faultAt, .int m_seen, .int m_mirrors, .ref y_cost, .ref y_away, .ref y_fee, .ref y_goesTo, .ref y_priceWas, .ref y_isKept, .ref y_kept, .ref y_trace, .int m_traced])), (y_city, .inl (cI, 192, .inl cy)), (y_kept, .inl (cI, 384, .inl kp)), (y_isKept, .inl (cZ, 2, .inl ik))]) ∨ (∃ (cy2 : Nat → Int32), (prd cyK 192 cy2) ∧ (0 ≤ a.toInt ∧ a.toInt < 2 ∧ ¬ (ik a.toNatClampNeg).toInt = 0) ∧ r = 1 ∧ w = [(y, .inr (9, [.int 0, .int m_status, .ref y_lane, .ref y_many, .ref y_item, .ref y_city, .ref y_fresh, .int m_isThere, .ref y_tape, .int m_taped, .int m_latest, .int m_length, .int m_cursor, .int m_token, .int m_start, .int m_till, .int m_fault, .int m_faultAt, .int m_seen, .int m_mirrors, .ref y_cost, .ref y_away, .ref y_fee, .ref y_goesTo, .ref y_priceWas, .ref y_isKept, .ref y_kept, .ref y_trace, .int m_traced])), (y_city, .inl (cI, 192, .inl cy2)), (y_kept, .inl (cI, 384, .inl kp)), (y_isKept, .inl (cZ, 2, .inl ik))])) (wD D A) A) ([.ref y, .int a] : List Value).toArray s 0 0 A) (F0 m 32 ls []) := by
  have S : CallFix p m c cX9_restore 3 s ([.ref y, .int a] : List Value).toArray wsX9_restore RX9 := X.1
  have iX9 := jX9_restore_X9
  intro mN
  induction mN with
  | zero => intro i cy1 hpd_cy1 hpd_kp hi hm; exact absurd hm (Nat.not_lt_zero _)
  | succ mN ih =>
    intro i cy1 hpd_cy1 hpd_kp hi hm H locs ls hP hD hS hl
    refine lv_iload_n S.1 S.2.1 dX9_restore_32 rfl (lv_at hl 0 rfl) ?_
    refine lv_sipush (v := (192)) S.1 S.2.1 dX9_restore_33 (by decide) ?_
    refine lv_icmp_ge (tgt := 63) S.1 S.2.1 dX9_restore_36 (by decide) (fun c_101 => ?_) (fun c_101 => ?_)
    · rw [le2 (a := 192) (b := i) (A := 192) (B := i.toInt) rfl rfl] at c_101
      exact K i cy1 (by first | assumption | omega | decide | (rw [show Int32.toInt 0 = 0 from rfl]; omega)) (by first | assumption | omega | decide | (rw [show Int32.toInt 0 = 0 from rfl]; omega)) (by first | assumption | omega | decide | (rw [show Int32.toInt 0 = 0 from rfl]; omega)) H _ ls hP hD hS (lv_sub hl [0, 1, 2] rfl)
    · rw [le2 (a := 192) (b := i) (A := 192) (B := i.toInt) rfl rfl] at c_101
      refine lv_aload_n S.1 S.2.1 dX9_restore_39 rfl (lv_at hl 1 rfl) ?_
      refine b_get (v := .ref y_city) S iX9 hK hP 0 rfl rfl 5 (by decide) (by decide +kernel) rfl dX9_restore_40 ?_
      refine lv_iload_n S.1 S.2.1 dX9_restore_43 rfl (lv_at hl 0 rfl) ?_
      refine lv_aload_n S.1 S.2.1 dX9_restore_44 rfl (lv_at hl 1 rfl) ?_
      refine b_get (v := .ref y_kept) S iX9 hK hP 0 rfl rfl 26 (by decide) (by decide +kernel) rfl dX9_restore_45 ?_
      refine lv_sipush (v := (192)) S.1 S.2.1 dX9_restore_48 (by decide) ?_
      refine lv_iload_n S.1 S.2.1 dX9_restore_51 rfl (lv_at hl 2 rfl) ?_
      refine lv_imul S.1 S.2.1 dX9_restore_52 ?_
      refine lv_topi (fun x_102 ex_102 => ?_)
      have tx_102 : x_102.toInt = 192 * a.toInt := mulI (A := 192) (B := a.toInt) ex_102 rfl rfl (by omega) (by omega)
      refine lv_iload_n S.1 S.2.1 dX9_restore_53 rfl (lv_at hl 0 rfl) ?_
      refine lv_iadd S.1 S.2.1 dX9_restore_54 ?_
      refine lv_topi (fun x_103 ex_103 => ?_)
      have tx_103 : x_103.toInt = x_102.toInt + (i.toInt) := addI (A := x_102.toInt) (B := i.toInt) ex_103 rfl rfl (by omega) (by omega)
      have hin_104 : vp_in x_103 384 := (in_of (n := 384) (by omega) (by omega))
      refine va_iald S.1 S.2.1 hK.1 hP 2 0 rfl rfl hin_104 dX9_restore_55 ?_
      refine lv_topi (fun x_105 ex_105 => ?_)
      have kg := cy_of (i := i) (x := x_103) (a := a.toInt) (prd_get (show prd kpK 384 kp by assumption) (i := x_103) (by omega) (by omega) ex_105) (by omega) (by omega) (by omega)
      refine va_iast S.1 S.2.1 hK.1 hP hD hS 1 0 rfl rfl (in_of (n := 192) (by omega) (by omega)) dX9_restore_56 (fun H locs hP hD hS => ?_)
      obtain ⟨f_106, hf_106, rf_106⟩ : ∃ g, (upd cy1 i.toNatClampNeg (x_105)) = g ∧ prd cyK 192 g := ⟨_, rfl, prd_upd (by assumption) kg⟩
      have hP : va_P D vwCl [(y, .inr (9, [.int 0, .int m_status, .ref y_lane, .ref y_many, .ref y_item, .ref y_city, .ref y_fresh, .int m_isThere, .ref y_tape, .int m_taped, .int m_latest, .int m_length, .int m_cursor, .int m_token, .int m_start, .int m_till, .int m_fault, .int m_faultAt, .int m_seen, .int m_mirrors, .ref y_cost, .ref y_away, .ref y_fee, .ref y_goesTo, .ref y_priceWas, .ref y_isKept, .ref y_kept, .ref y_trace, .int m_traced])), (y_city, .inl (cI, 192, .inl (upd cy1 i.toNatClampNeg (x_105)))), (y_kept, .inl (cI, 384, .inl kp)), (y_isKept, .inl (cZ, 2, .inl ik))] H := hP
      have hD : va_D A [(y, .inr (9, [.int 0, .int m_status, .ref y_lane, .ref y_many, .ref y_item, .ref y_city, .ref y_fresh, .int m_isThere, .ref y_tape, .int m_taped, .int m_latest, .int m_length, .int m_cursor, .int m_token, .int m_start, .int m_till, .int m_fault, .int m_faultAt, .int m_seen, .int m_mirrors, .ref y_cost, .ref y_away, .ref y_fee, .ref y_goesTo, .ref y_priceWas, .ref y_isKept, .ref y_kept, .ref y_trace, .int m_traced])), (y_city, .inl (cI, 192, .inl (upd cy1 i.toNatClampNeg (x_105)))), (y_kept, .inl (cI, 384, .inl kp)), (y_isKept, .inl (cZ, 2, .inl ik))] := hD
      rw [hf_106] at hP hD
      obtain ⟨x_107, ex_107⟩ : ∃ y : Int32, y = i + Int32.ofInt (1) := ⟨_, rfl⟩
      refine lv_iinc (v := x_107) (lv' := [(2, .int x_107), (0, .ref y), (1, .int a)]) S.1 S.2.1 dX9_restore_57 hl (k := 0) rfl ex_107.symm (by decide) rfl (fun ls hl => ?_)
      have tx_107 : x_107.toInt = i.toInt + (1) := addI (A := i.toInt) (B := 1) ex_107 rfl rfl (by omega) (by omega)
      refine lv_goto (tgt := 32) S.1 S.2.1 dX9_restore_60 (by decide) ?_
      exact ih x_107 f_106 (by first | assumption | omega | decide | (rw [show Int32.toInt 0 = 0 from rfl]; omega)) (by first | assumption | omega | decide | (rw [show Int32.toInt 0 = 0 from rfl]; omega)) (by first | assumption | omega | decide | (rw [show Int32.toInt 0 = 0 from rfl]; omega)) (by omega) H _ ls hP hD hS (lv_sub hl [0, 1, 2] rfl)
set_option maxHeartbeats 4000000 in
set_option maxRecDepth 100000 in
theorem s_X9_restore (l : Launch) (D : va_G) (cI cZ cC cS : ClassId) (sq : Nat → Nat) (sz : Nat) (y : Nat) (y_city : Nat) (y_kept : Nat) (y_isKept : Nat) (a : Int32) (m_thrown : Int32) (m_status : Int32) (y_lane : Nat) (y_many : Nat) (y_item : Nat) (y_fresh : Nat) (m_isThere : Int32) (y_tape : Nat) (m_taped : Int32) (m_latest : Int32) (m_length : Int32) (m_cursor : Int32) (m_token : Int32) (m_start : Int32) (m_till : Int32) (m_fault : Int32) (m_faultAt : Int32) (m_seen : Int32) (m_mirrors : Int32) (y_cost : Nat) (y_away : Nat) (y_fee : Nat) (y_goesTo : Nat) (y_priceWas : Nat) (y_trace : Nat) (m_traced : Int32) (cy : Nat → Int32) (kp : Nat → Int32) (ik : Nat → Int32) (hpd_cy : prd cyK 192 cy) (hpd_kp : prd kpK 384 kp) : mI l yX9_restore wsX9_restore 50 2000 D (tyW cI cZ cC cS) sq [(y, .inr (9, [.int m_thrown, .int m_status, .ref y_lane, .ref y_many, .ref y_item, .ref y_city, .ref y_fresh, .int m_isThere, .ref y_tape, .int m_taped, .int m_latest, .int m_length, .int m_cursor, .int m_token, .int m_start, .int m_till, .int m_fault, .int m_faultAt, .int m_seen, .int m_mirrors, .ref y_cost, .ref y_away, .ref y_fee, .ref y_goesTo, .ref y_priceWas, .ref y_isKept, .ref y_kept, .ref y_trace, .int m_traced])), (y_city, .inl (cI, 192, .inl cy)), (y_kept, .inl (cI, 384, .inl kp)), (y_isKept, .inl (cZ, 2, .inl ik))] sz [.ref y, .int a] (fun r w => ((¬ (0 ≤ a.toInt ∧ a.toInt < 2)) ∧ r = -1000001 ∧ w = [(y, .inr (9, [.int 0, .int m_status, .ref y_lane, .ref y_many, .ref y_item, .ref y_city, .ref y_fresh, .int m_isThere, .ref y_tape, .int m_taped, .int m_latest, .int m_length, .int m_cursor, .int m_token, .int m_start, .int m_till, .int m_fault, .int m_faultAt, .int m_seen, .int m_mirrors, .ref y_cost, .ref y_away, .ref y_fee, .ref y_goesTo, .ref y_priceWas, .ref y_isKept, .ref y_kept, .ref y_trace, .int m_traced])), (y_city, .inl (cI, 192, .inl cy)), (y_kept, .inl (cI, 384, .inl kp)), (y_isKept, .inl (cZ, 2, .inl ik))]) ∨ ((0 ≤ a.toInt ∧ a.toInt < 2 ∧ (ik a.toNatClampNeg).toInt = 0) ∧ r = -1000002 ∧ w = [(y, .inr (9, [.int 0, .int m_status, .ref y_lane, .ref y_many, .ref y_item, .ref y_city, .ref y_fresh, .int m_isThere, .ref y_tape, .int m_taped, .int m_latest, .int m_length, .int m_cursor, .int m_token, .int m_start, .int m_till, .int m_fault, .int m_faultAt, .int m_seen, .int m_mirrors, .ref y_cost, .ref y_away, .ref y_fee, .ref y_goesTo, .ref y_priceWas, .ref y_isKept, .ref y_kept, .ref y_trace, .int m_traced])), (y_city, .inl (cI, 192, .inl cy)), (y_kept, .inl (cI, 384, .inl kp)), (y_isKept, .inl (cZ, 2, .inl ik))]) ∨ (∃ (cy2 : Nat → Int32), (prd cyK 192 cy2) ∧ (0 ≤ a.toInt ∧ a.toInt < 2 ∧ ¬ (ik a.toNatClampNeg).toInt = 0) ∧ r = 1 ∧ w = [(y, .inr (9, [.int 0, .int m_status, .ref y_lane, .ref y_many, .ref y_item, .ref y_city, .ref y_fresh, .int m_isThere, .ref y_tape, .int m_taped, .int m_latest, .int m_length, .int m_cursor, .int m_token, .int m_start, .int m_till, .int m_fault, .int m_faultAt, .int m_seen, .int m_mirrors, .ref y_cost, .ref y_away, .ref y_fee, .ref y_goesTo, .ref y_priceWas, .ref y_isKept, .ref y_kept, .ref y_trace, .int m_traced])), (y_city, .inl (cI, 192, .inl cy2)), (y_kept, .inl (cI, 384, .inl kp)), (y_isKept, .inl (cZ, 2, .inl ik))])) := by
  refine b_metI (cc := cX9_restore) (maxL := 3) (ret := (some .int)) (by decide) rfl (Nat.le_of_ble_eq_true rfl) ?_
  intro p e s m below meth c ls A H X hsz hP hK hT hD hA hS hl
  have S : CallFix p m c cX9_restore 3 s ([.ref y, .int a] : List Value).toArray wsX9_restore RX9 := X.1
  have hl : lv_has ls 3 [(0, .ref y), (1, .int a)] := hl
  have iX9 := jX9_restore_X9
  refine lv_aload_n S.1 S.2.1 dX9_restore_0 rfl (lv_at hl 0 rfl) ?_
  refine lv_iconst (v := (0)) S.1 S.2.1 dX9_restore_1 (by decide) ?_
  refine b_put (v := .int 0) S iX9 tyX9 tyX9_ok nmX9 hK hP hD hS 0 rfl rfl 0 (by decide) (by decide +kernel) rfl rfl rfl (Nat.le_of_ble_eq_true rfl) dX9_restore_2 (fun H locs hP hD hS => ?_)
  have hP : va_P D vwCl [(y, .inr (9, [.int 0, .int m_status, .ref y_lane, .ref y_many, .ref y_item, .ref y_city, .ref y_fresh, .int m_isThere, .ref y_tape, .int m_taped, .int m_latest, .int m_length, .int m_cursor, .int m_token, .int m_start, .int m_till, .int m_fault, .int m_faultAt, .int m_seen, .int m_mirrors, .ref y_cost, .ref y_away, .ref y_fee, .ref y_goesTo, .ref y_priceWas, .ref y_isKept, .ref y_kept, .ref y_trace, .int m_traced])), (y_city, .inl (cI, 192, .inl cy)), (y_kept, .inl (cI, 384, .inl kp)), (y_isKept, .inl (cZ, 2, .inl ik))] H := hP
  have hD : va_D A [(y, .inr (9, [.int 0, .int m_status, .ref y_lane, .ref y_many, .ref y_item, .ref y_city, .ref y_fresh, .int m_isThere, .ref y_tape, .int m_taped, .int m_latest, .int m_length, .int m_cursor, .int m_token, .int m_start, .int m_till, .int m_fault, .int m_faultAt, .int m_seen, .int m_mirrors, .ref y_cost, .ref y_away, .ref y_fee, .ref y_goesTo, .ref y_priceWas, .ref y_isKept, .ref y_kept, .ref y_trace, .int m_traced])), (y_city, .inl (cI, 192, .inl cy)), (y_kept, .inl (cI, 384, .inl kp)), (y_isKept, .inl (cZ, 2, .inl ik))] := hD
  refine lv_iload_n S.1 S.2.1 dX9_restore_5 rfl (lv_at hl 1 rfl) ?_
  refine lv_i2l (v := a.toInt64) S.1 S.2.1 dX9_restore_6 rfl ?_
  refine lv_lconst (v := 0) S.1 S.2.1 dX9_restore_7 (by decide) ?_
  refine lv_lconst (v := 1) S.1 S.2.1 dX9_restore_8 (by decide) ?_
  refine b_ai (wr := [(y, .inr (9, [.int 0, .int m_status, .ref y_lane, .ref y_many, .ref y_item, .ref y_city, .ref y_fresh, .int m_isThere, .ref y_tape, .int m_taped, .int m_latest, .int m_length, .int m_cursor, .int m_token, .int m_start, .int m_till, .int m_fault, .int m_faultAt, .int m_seen, .int m_mirrors, .ref y_cost, .ref y_away, .ref y_fee, .ref y_goesTo, .ref y_priceWas, .ref y_isKept, .ref y_kept, .ref y_trace, .int m_traced])), (y_city, .inl (cI, 192, .inl cy)), (y_kept, .inl (cI, 384, .inl kp)), (y_isKept, .inl (cZ, 2, .inl ik))]) (b_runS (As := [.long (a.toInt64), .long 0, .long 1]) (s_X9_in l D cI cZ cC cS sq H.size (a.toInt64) (0) (1)) S gX9_restore_X9_in rfl hdS_X9_in ⟨Nat.le_of_ble_eq_true rfl, Nat.le_of_ble_eq_true rfl⟩ ⟨Nat.le_of_ble_eq_true rfl, Nat.le_of_ble_eq_true rfl⟩ hK hT hS hA hP hD [] rfl (by decide) rfl hl.1 rfl (Nat.le_of_ble_eq_true rfl) dX9_restore_9) hP hD hS hA [] [0, 1, 2, 3] rfl rfl (by decide) (by decide) (fun r_1 w_2 H locs hw_3 hP hD hS => ?_)
  rcases hw_3 with ⟨hf_4, rfl, rfl⟩ | ⟨hf_5, rfl, rfl⟩
  · have hf_4 : (0) ≤ a.toInt ∧ a.toInt ≤ (1) := by simp only [Int32.toInt_toInt64] at hf_4; exact hf_4
    have hP : va_P D vwCl [(y, .inr (9, [.int 0, .int m_status, .ref y_lane, .ref y_many, .ref y_item, .ref y_city, .ref y_fresh, .int m_isThere, .ref y_tape, .int m_taped, .int m_latest, .int m_length, .int m_cursor, .int m_token, .int m_start, .int m_till, .int m_fault, .int m_faultAt, .int m_seen, .int m_mirrors, .ref y_cost, .ref y_away, .ref y_fee, .ref y_goesTo, .ref y_priceWas, .ref y_isKept, .ref y_kept, .ref y_trace, .int m_traced])), (y_city, .inl (cI, 192, .inl cy)), (y_kept, .inl (cI, 384, .inl kp)), (y_isKept, .inl (cZ, 2, .inl ik))] H := hP
    have hD : va_D A [(y, .inr (9, [.int 0, .int m_status, .ref y_lane, .ref y_many, .ref y_item, .ref y_city, .ref y_fresh, .int m_isThere, .ref y_tape, .int m_taped, .int m_latest, .int m_length, .int m_cursor, .int m_token, .int m_start, .int m_till, .int m_fault, .int m_faultAt, .int m_seen, .int m_mirrors, .ref y_cost, .ref y_away, .ref y_fee, .ref y_goesTo, .ref y_priceWas, .ref y_isKept, .ref y_kept, .ref y_trace, .int m_traced])), (y_city, .inl (cI, 192, .inl cy)), (y_kept, .inl (cI, 384, .inl kp)), (y_isKept, .inl (cZ, 2, .inl ik))] := hD
    refine lv_if_ne (tgt := 18) S.1 S.2.1 dX9_restore_12 (by decide) (fun c_6 => ?_) (fun c_6 => absurd c_6 (by decide))
    refine lv_aload_n S.1 S.2.1 dX9_restore_18 rfl (lv_at hl 0 rfl) ?_
    refine b_get (v := .ref y_isKept) S iX9 hK hP 0 rfl rfl 25 (by decide) (by decide +kernel) rfl dX9_restore_19 ?_
    refine lv_iload_n S.1 S.2.1 dX9_restore_22 rfl (lv_at hl 1 rfl) ?_
    have hin_7 : vp_in a 2 := (in_of (n := 2) (by omega) (by omega))
    refine va_zald S.1 S.2.1 hK.1 hP 3 1 rfl rfl hin_7 dX9_restore_23 ?_
    refine lv_topi (fun x_8 ex_8 => ?_)
    have bx_8 : x_8.toInt = (ik a.toNatClampNeg).toInt := by rw [ex_8]
    refine lv_if_ne (tgt := 30) S.1 S.2.1 dX9_restore_24 (by decide) (fun c_9 => ?_) (fun c_9 => ?_)
    · rw [eq2 (a := x_8) (b := 0) (A := x_8.toInt) (B := 0) rfl rfl] at c_9
      refine lv_iconst (v := (0)) S.1 S.2.1 dX9_restore_30 (by decide) ?_
      refine lv_istore_n (lv' := [(2, .int 0), (0, .ref y), (1, .int a)]) S.1 S.2.1 dX9_restore_31 rfl hl (by decide) rfl (fun ls hl => ?_)
      refine lp_mrestore l D cI cZ cC cS sq y y_city y_kept y_isKept a m_thrown m_status y_lane y_many y_item y_fresh m_isThere y_tape m_taped m_latest m_length m_cursor m_token m_start m_till m_fault m_faultAt m_seen m_mirrors y_cost y_away y_fee y_goesTo y_priceWas y_trace m_traced cy kp ik hpd_cy hpd_kp (by first | assumption | omega | decide | (rw [show Int32.toInt 0 = 0 from rfl]; omega)) X hK hT hA (fun i_10 cy1_11 hi_12 hi_13 hi_14 H locs ls hP hD hS hl => ?_) _ (0) cy (by first | assumption | omega | decide | (rw [show Int32.toInt 0 = 0 from rfl]; omega)) (by first | assumption | omega | decide | (rw [show Int32.toInt 0 = 0 from rfl]; omega)) (by first | assumption | omega | decide | (rw [show Int32.toInt 0 = 0 from rfl]; omega)) (Nat.lt_succ_self _) H _ ls hP hD hS (lv_sub hl [0, 1, 2] rfl)
      refine lv_iconst (v := (1)) S.1 S.2.1 dX9_restore_63 (by decide) ?_
      exact b_iret S.1 S.2.1 X.2.1 X.2.2.1 hP hD hS (Or.inr (Or.inr (⟨cy1_11, (by first | assumption | omega | decide | (rw [show Int32.toInt 0 = 0 from rfl]; omega)), (by first | assumption | omega | decide | (rw [show Int32.toInt 0 = 0 from rfl]; omega)), rfl, rfl⟩))) dX9_restore_64
    · rw [eq2 (a := x_8) (b := 0) (A := x_8.toInt) (B := 0) rfl rfl] at c_9
      refine lv_ldc (v := (-1000002)) S.1 S.2.1 S.2.2.2.1 (S.2.2.2.2 (.constant RX9 233 (-1000002)) (by decide +kernel)) dX9_restore_27 ?_
      exact b_iret S.1 S.2.1 X.2.1 X.2.2.1 hP hD hS (Or.inr (Or.inl ⟨(by first | assumption | omega | decide | (rw [show Int32.toInt 0 = 0 from rfl]; omega)), rfl, rfl⟩)) dX9_restore_29
  · have hf_5 : a.toInt < (0) ∨ (1) < a.toInt := by simp only [Int32.toInt_toInt64] at hf_5; exact hf_5
    have hP : va_P D vwCl [(y, .inr (9, [.int 0, .int m_status, .ref y_lane, .ref y_many, .ref y_item, .ref y_city, .ref y_fresh, .int m_isThere, .ref y_tape, .int m_taped, .int m_latest, .int m_length, .int m_cursor, .int m_token, .int m_start, .int m_till, .int m_fault, .int m_faultAt, .int m_seen, .int m_mirrors, .ref y_cost, .ref y_away, .ref y_fee, .ref y_goesTo, .ref y_priceWas, .ref y_isKept, .ref y_kept, .ref y_trace, .int m_traced])), (y_city, .inl (cI, 192, .inl cy)), (y_kept, .inl (cI, 384, .inl kp)), (y_isKept, .inl (cZ, 2, .inl ik))] H := hP
    have hD : va_D A [(y, .inr (9, [.int 0, .int m_status, .ref y_lane, .ref y_many, .ref y_item, .ref y_city, .ref y_fresh, .int m_isThere, .ref y_tape, .int m_taped, .int m_latest, .int m_length, .int m_cursor, .int m_token, .int m_start, .int m_till, .int m_fault, .int m_faultAt, .int m_seen, .int m_mirrors, .ref y_cost, .ref y_away, .ref y_fee, .ref y_goesTo, .ref y_priceWas, .ref y_isKept, .ref y_kept, .ref y_trace, .int m_traced])), (y_city, .inl (cI, 192, .inl cy)), (y_kept, .inl (cI, 384, .inl kp)), (y_isKept, .inl (cZ, 2, .inl ik))] := hD
    refine lv_if_ne (tgt := 18) S.1 S.2.1 dX9_restore_12 (by decide) (fun c_15 => absurd c_15 (by decide)) (fun c_15 => ?_)
    refine lv_ldc (v := (-1000001)) S.1 S.2.1 S.2.2.2.1 (S.2.2.2.2 (.constant RX9 73 (-1000001)) (by decide +kernel)) dX9_restore_15 ?_
    exact b_iret S.1 S.2.1 X.2.1 X.2.2.1 hP hD hS (Or.inl ⟨(by first | assumption | omega | decide | (rw [show Int32.toInt 0 = 0 from rfl]; omega)), rfl, rfl⟩) dX9_restore_17
set_option maxHeartbeats 4000000 in
set_option maxRecDepth 100000 in
theorem s_X9_isOf2 (l : Launch) (D : va_G) (cI cZ cC cS : ClassId) (sq : Nat → Nat) (sz : Nat) (a : Int32) (b : Int32) : mI l yX9_isOf wsX9_isOf 0 0 D (tyW cI cZ cC cS) sq [] sz [.int a, .int b] (fun r w => ((b.toInt = 0 ∨ a.toInt = b.toInt ∨ (b.toInt = 3 ∧ a.toInt = 5) ∨ (b.toInt = 2 ∧ (a.toInt = 3 ∨ a.toInt = 4 ∨ a.toInt = 5))) ∧ r = 1 ∧ w = []) ∨ ((¬ (b.toInt = 0 ∨ a.toInt = b.toInt ∨ (b.toInt = 3 ∧ a.toInt = 5) ∨ (b.toInt = 2 ∧ (a.toInt = 3 ∨ a.toInt = 4 ∨ a.toInt = 5)))) ∧ r = 0 ∧ w = [])) := by
  refine b_metI (cc := cX9_isOf) (maxL := 2) (ret := (some .boolean)) (by decide) rfl (Nat.le_of_ble_eq_true rfl) ?_
  intro p e s m below meth c ls A H X hsz hP hK hT hD hA hS hl
  have S : CallFix p m c cX9_isOf 2 s ([.int a, .int b] : List Value).toArray wsX9_isOf RX9 := X.1
  have hl : lv_has ls 2 [(0, .int a), (1, .int b)] := hl
  refine lv_iload_n S.1 S.2.1 dX9_isOf_0 rfl (lv_at hl 1 rfl) ?_
  refine lv_if_eq (tgt := 39) S.1 S.2.1 dX9_isOf_1 (by decide) (fun c_1 => ?_) (fun c_1 => ?_)
  · rw [eq2 (a := b) (b := 0) (A := b.toInt) (B := 0) rfl rfl] at c_1
    refine lv_iconst (v := (1)) S.1 S.2.1 dX9_isOf_39 (by decide) ?_
    refine lv_goto (tgt := 44) S.1 S.2.1 dX9_isOf_40 (by decide) ?_
    exact b_zret S.1 S.2.1 X.2.1 X.2.2.1 rfl hP hD hS (Or.inl ⟨(by first | assumption | omega | decide | (rw [show Int32.toInt 0 = 0 from rfl]; omega)), rfl, rfl⟩) dX9_isOf_44
  · rw [eq2 (a := b) (b := 0) (A := b.toInt) (B := 0) rfl rfl] at c_1
    refine lv_iload_n S.1 S.2.1 dX9_isOf_4 rfl (lv_at hl 0 rfl) ?_
    refine lv_iload_n S.1 S.2.1 dX9_isOf_5 rfl (lv_at hl 1 rfl) ?_
    refine lv_icmp_eq (tgt := 39) S.1 S.2.1 dX9_isOf_6 (by decide) (fun c_2 => ?_) (fun c_2 => ?_)
    · rw [eq2 (a := a) (b := b) (A := a.toInt) (B := b.toInt) rfl rfl] at c_2
      refine lv_iconst (v := (1)) S.1 S.2.1 dX9_isOf_39 (by decide) ?_
      refine lv_goto (tgt := 44) S.1 S.2.1 dX9_isOf_40 (by decide) ?_
      exact b_zret S.1 S.2.1 X.2.1 X.2.2.1 rfl hP hD hS (Or.inl ⟨(by first | assumption | omega | decide | (rw [show Int32.toInt 0 = 0 from rfl]; omega)), rfl, rfl⟩) dX9_isOf_44
    · rw [eq2 (a := a) (b := b) (A := a.toInt) (B := b.toInt) rfl rfl] at c_2
      refine lv_iload_n S.1 S.2.1 dX9_isOf_9 rfl (lv_at hl 1 rfl) ?_
      refine lv_iconst (v := (3)) S.1 S.2.1 dX9_isOf_10 (by decide) ?_
      refine lv_icmp_ne (tgt := 19) S.1 S.2.1 dX9_isOf_11 (by decide) (fun c_3 => ?_) (fun c_3 => ?_)
      · rw [eq2 (a := b) (b := 3) (A := b.toInt) (B := 3) rfl rfl] at c_3
        refine lv_iload_n S.1 S.2.1 dX9_isOf_19 rfl (lv_at hl 1 rfl) ?_
        refine lv_iconst (v := (2)) S.1 S.2.1 dX9_isOf_20 (by decide) ?_
        refine lv_icmp_ne (tgt := 43) S.1 S.2.1 dX9_isOf_21 (by decide) (fun c_4 => ?_) (fun c_4 => ?_)
        · rw [eq2 (a := b) (b := 2) (A := b.toInt) (B := 2) rfl rfl] at c_4
          refine lv_iconst (v := (0)) S.1 S.2.1 dX9_isOf_43 (by decide) ?_
          exact b_zret S.1 S.2.1 X.2.1 X.2.2.1 rfl hP hD hS (Or.inr (⟨(by first | assumption | omega | decide | (rw [show Int32.toInt 0 = 0 from rfl]; omega)), rfl, rfl⟩)) dX9_isOf_44
        · rw [eq2 (a := b) (b := 2) (A := b.toInt) (B := 2) rfl rfl] at c_4
          refine lv_iload_n S.1 S.2.1 dX9_isOf_24 rfl (lv_at hl 0 rfl) ?_
          refine lv_iconst (v := (3)) S.1 S.2.1 dX9_isOf_25 (by decide) ?_
          refine lv_icmp_eq (tgt := 39) S.1 S.2.1 dX9_isOf_26 (by decide) (fun c_5 => ?_) (fun c_5 => ?_)
          · rw [eq2 (a := a) (b := 3) (A := a.toInt) (B := 3) rfl rfl] at c_5
            refine lv_iconst (v := (1)) S.1 S.2.1 dX9_isOf_39 (by decide) ?_
            refine lv_goto (tgt := 44) S.1 S.2.1 dX9_isOf_40 (by decide) ?_
            exact b_zret S.1 S.2.1 X.2.1 X.2.2.1 rfl hP hD hS (Or.inl ⟨(by first | assumption | omega | decide | (rw [show Int32.toInt 0 = 0 from rfl]; omega)), rfl, rfl⟩) dX9_isOf_44
          · rw [eq2 (a := a) (b := 3) (A := a.toInt) (B := 3) rfl rfl] at c_5
            refine lv_iload_n S.1 S.2.1 dX9_isOf_29 rfl (lv_at hl 0 rfl) ?_
            refine lv_iconst (v := (4)) S.1 S.2.1 dX9_isOf_30 (by decide) ?_
            refine lv_icmp_eq (tgt := 39) S.1 S.2.1 dX9_isOf_31 (by decide) (fun c_6 => ?_) (fun c_6 => ?_)
            · rw [eq2 (a := a) (b := 4) (A := a.toInt) (B := 4) rfl rfl] at c_6
              refine lv_iconst (v := (1)) S.1 S.2.1 dX9_isOf_39 (by decide) ?_
              refine lv_goto (tgt := 44) S.1 S.2.1 dX9_isOf_40 (by decide) ?_
              exact b_zret S.1 S.2.1 X.2.1 X.2.2.1 rfl hP hD hS (Or.inl ⟨(by first | assumption | omega | decide | (rw [show Int32.toInt 0 = 0 from rfl]; omega)), rfl, rfl⟩) dX9_isOf_44
            · rw [eq2 (a := a) (b := 4) (A := a.toInt) (B := 4) rfl rfl] at c_6
              refine lv_iload_n S.1 S.2.1 dX9_isOf_34 rfl (lv_at hl 0 rfl) ?_
              refine lv_iconst (v := (5)) S.1 S.2.1 dX9_isOf_35 (by decide) ?_
              refine lv_icmp_ne (tgt := 43) S.1 S.2.1 dX9_isOf_36 (by decide) (fun c_7 => ?_) (fun c_7 => ?_)
              · rw [eq2 (a := a) (b := 5) (A := a.toInt) (B := 5) rfl rfl] at c_7
                refine lv_iconst (v := (0)) S.1 S.2.1 dX9_isOf_43 (by decide) ?_
                exact b_zret S.1 S.2.1 X.2.1 X.2.2.1 rfl hP hD hS (Or.inr (⟨(by first | assumption | omega | decide | (rw [show Int32.toInt 0 = 0 from rfl]; omega)), rfl, rfl⟩)) dX9_isOf_44
              · rw [eq2 (a := a) (b := 5) (A := a.toInt) (B := 5) rfl rfl] at c_7
                refine lv_iconst (v := (1)) S.1 S.2.1 dX9_isOf_39 (by decide) ?_
                refine lv_goto (tgt := 44) S.1 S.2.1 dX9_isOf_40 (by decide) ?_
                exact b_zret S.1 S.2.1 X.2.1 X.2.2.1 rfl hP hD hS (Or.inl ⟨(by first | assumption | omega | decide | (rw [show Int32.toInt 0 = 0 from rfl]; omega)), rfl, rfl⟩) dX9_isOf_44
      · rw [eq2 (a := b) (b := 3) (A := b.toInt) (B := 3) rfl rfl] at c_3
        refine lv_iload_n S.1 S.2.1 dX9_isOf_14 rfl (lv_at hl 0 rfl) ?_
        refine lv_iconst (v := (5)) S.1 S.2.1 dX9_isOf_15 (by decide) ?_
        refine lv_icmp_eq (tgt := 39) S.1 S.2.1 dX9_isOf_16 (by decide) (fun c_8 => ?_) (fun c_8 => ?_)
        · rw [eq2 (a := a) (b := 5) (A := a.toInt) (B := 5) rfl rfl] at c_8
          refine lv_iconst (v := (1)) S.1 S.2.1 dX9_isOf_39 (by decide) ?_
          refine lv_goto (tgt := 44) S.1 S.2.1 dX9_isOf_40 (by decide) ?_
          exact b_zret S.1 S.2.1 X.2.1 X.2.2.1 rfl hP hD hS (Or.inl ⟨(by first | assumption | omega | decide | (rw [show Int32.toInt 0 = 0 from rfl]; omega)), rfl, rfl⟩) dX9_isOf_44
        · rw [eq2 (a := a) (b := 5) (A := a.toInt) (B := 5) rfl rfl] at c_8
          refine lv_iload_n S.1 S.2.1 dX9_isOf_19 rfl (lv_at hl 1 rfl) ?_
          refine lv_iconst (v := (2)) S.1 S.2.1 dX9_isOf_20 (by decide) ?_
          refine lv_icmp_ne (tgt := 43) S.1 S.2.1 dX9_isOf_21 (by decide) (fun c_9 => ?_) (fun c_9 => ?_)
          · rw [eq2 (a := b) (b := 2) (A := b.toInt) (B := 2) rfl rfl] at c_9
            refine lv_iconst (v := (0)) S.1 S.2.1 dX9_isOf_43 (by decide) ?_
            exact b_zret S.1 S.2.1 X.2.1 X.2.2.1 rfl hP hD hS (Or.inr (⟨(by first | assumption | omega | decide | (rw [show Int32.toInt 0 = 0 from rfl]; omega)), rfl, rfl⟩)) dX9_isOf_44
          · rw [eq2 (a := b) (b := 2) (A := b.toInt) (B := 2) rfl rfl] at c_9
            refine lv_iload_n S.1 S.2.1 dX9_isOf_24 rfl (lv_at hl 0 rfl) ?_
            refine lv_iconst (v := (3)) S.1 S.2.1 dX9_isOf_25 (by decide) ?_
            refine lv_icmp_eq (tgt := 39) S.1 S.2.1 dX9_isOf_26 (by decide) (fun c_10 => ?_) (fun c_10 => ?_)
            · rw [eq2 (a := a) (b := 3) (A := a.toInt) (B := 3) rfl rfl] at c_10
              refine lv_iconst (v := (1)) S.1 S.2.1 dX9_isOf_39 (by decide) ?_
              refine lv_goto (tgt := 44) S.1 S.2.1 dX9_isOf_40 (by decide) ?_
              exact b_zret S.1 S.2.1 X.2.1 X.2.2.1 rfl hP hD hS (Or.inl ⟨(by first | assumption | omega | decide | (rw [show Int32.toInt 0 = 0 from rfl]; omega)), rfl, rfl⟩) dX9_isOf_44
            · rw [eq2 (a := a) (b := 3) (A := a.toInt) (B := 3) rfl rfl] at c_10
              refine lv_iload_n S.1 S.2.1 dX9_isOf_29 rfl (lv_at hl 0 rfl) ?_
              refine lv_iconst (v := (4)) S.1 S.2.1 dX9_isOf_30 (by decide) ?_
              refine lv_icmp_eq (tgt := 39) S.1 S.2.1 dX9_isOf_31 (by decide) (fun c_11 => ?_) (fun c_11 => ?_)
              · rw [eq2 (a := a) (b := 4) (A := a.toInt) (B := 4) rfl rfl] at c_11
                refine lv_iconst (v := (1)) S.1 S.2.1 dX9_isOf_39 (by decide) ?_
                refine lv_goto (tgt := 44) S.1 S.2.1 dX9_isOf_40 (by decide) ?_
                exact b_zret S.1 S.2.1 X.2.1 X.2.2.1 rfl hP hD hS (Or.inl ⟨(by first | assumption | omega | decide | (rw [show Int32.toInt 0 = 0 from rfl]; omega)), rfl, rfl⟩) dX9_isOf_44
              · rw [eq2 (a := a) (b := 4) (A := a.toInt) (B := 4) rfl rfl] at c_11
                refine lv_iload_n S.1 S.2.1 dX9_isOf_34 rfl (lv_at hl 0 rfl) ?_
                refine lv_iconst (v := (5)) S.1 S.2.1 dX9_isOf_35 (by decide) ?_
                refine lv_icmp_ne (tgt := 43) S.1 S.2.1 dX9_isOf_36 (by decide) (fun c_12 => ?_) (fun c_12 => ?_)
                · rw [eq2 (a := a) (b := 5) (A := a.toInt) (B := 5) rfl rfl] at c_12
                  refine lv_iconst (v := (0)) S.1 S.2.1 dX9_isOf_43 (by decide) ?_
                  exact b_zret S.1 S.2.1 X.2.1 X.2.2.1 rfl hP hD hS (Or.inr (⟨(by first | assumption | omega | decide | (rw [show Int32.toInt 0 = 0 from rfl]; omega)), rfl, rfl⟩)) dX9_isOf_44
                · rw [eq2 (a := a) (b := 5) (A := a.toInt) (B := 5) rfl rfl] at c_12
                  refine lv_iconst (v := (1)) S.1 S.2.1 dX9_isOf_39 (by decide) ?_
                  refine lv_goto (tgt := 44) S.1 S.2.1 dX9_isOf_40 (by decide) ?_
                  exact b_zret S.1 S.2.1 X.2.1 X.2.2.1 rfl hP hD hS (Or.inl ⟨(by first | assumption | omega | decide | (rw [show Int32.toInt 0 = 0 from rfl]; omega)), rfl, rfl⟩) dX9_isOf_44
set_option maxHeartbeats 4000000 in
set_option maxRecDepth 100000 in
theorem s_X9_kindOf (l : Launch) (D : va_G) (cI cZ cC cS : ClassId) (sq : Nat → Nat) (sz : Nat) (y : Nat) (y_city : Nat) (k : Int32) (m_thrown : Int32) (m_status : Int32) (y_lane : Nat) (y_many : Nat) (y_item : Nat) (y_fresh : Nat) (m_isThere : Int32) (y_tape : Nat) (m_taped : Int32) (m_latest : Int32) (m_length : Int32) (m_cursor : Int32) (m_token : Int32) (m_start : Int32) (m_till : Int32) (m_fault : Int32) (m_faultAt : Int32) (m_seen : Int32) (m_mirrors : Int32) (y_cost : Nat) (y_away : Nat) (y_fee : Nat) (y_goesTo : Nat) (y_priceWas : Nat) (y_isKept : Nat) (y_kept : Nat) (y_trace : Nat) (m_traced : Int32) (cy : Nat → Int32) (hpd_cy : prd cyK 192 cy) (hk : 0 ≤ k.toInt ∧ k.toInt < 80) : mI l yX9_kindOf wsX9_kindOf 0 0 D (tyW cI cZ cC cS) sq [(y, .inr (9, [.int m_thrown, .int m_status, .ref y_lane, .ref y_many, .ref y_item, .ref y_city, .ref y_fresh, .int m_isThere, .ref y_tape, .int m_taped, .int m_latest, .int m_length, .int m_cursor, .int m_token, .int m_start, .int m_till, .int m_fault, .int m_faultAt, .int m_seen, .int m_mirrors, .ref y_cost, .ref y_away, .ref y_fee, .ref y_goesTo, .ref y_priceWas, .ref y_isKept, .ref y_kept, .ref y_trace, .int m_traced])), (y_city, .inl (cI, 192, .inl cy))] sz [.ref y, .int k] (fun r w => ((1 ≤ r.toInt ∧ r.toInt ≤ 5) ∧ ((r.toInt = 3 ∨ r.toInt = 5) → 0 ≤ (cy (4 + k.toInt.toNat)).toInt) ∧ w = [(y, .inr (9, [.int m_thrown, .int m_status, .ref y_lane, .ref y_many, .ref y_item, .ref y_city, .ref y_fresh, .int m_isThere, .ref y_tape, .int m_taped, .int m_latest, .int m_length, .int m_cursor, .int m_token, .int m_start, .int m_till, .int m_fault, .int m_faultAt, .int m_seen, .int m_mirrors, .ref y_cost, .ref y_away, .ref y_fee, .ref y_goesTo, .ref y_priceWas, .ref y_isKept, .ref y_kept, .ref y_trace, .int m_traced])), (y_city, .inl (cI, 192, .inl cy))])) := by
  refine b_metI (cc := cX9_kindOf) (maxL := 3) (ret := (some .int)) (by decide) rfl (Nat.le_of_ble_eq_true rfl) ?_
  intro p e s m below meth c ls A H X hsz hP hK hT hD hA hS hl
  have S : CallFix p m c cX9_kindOf 3 s ([.ref y, .int k] : List Value).toArray wsX9_kindOf RX9 := X.1
  have hl : lv_has ls 3 [(0, .ref y), (1, .int k)] := hl
  have iX9 := jX9_kindOf_X9
  refine lv_aload_n S.1 S.2.1 dX9_kindOf_0 rfl (lv_at hl 0 rfl) ?_
  refine b_get (v := .ref y_city) S iX9 hK hP 0 rfl rfl 5 (by decide) (by decide +kernel) rfl dX9_kindOf_1 ?_
  refine lv_iconst (v := (4)) S.1 S.2.1 dX9_kindOf_4 (by decide) ?_
  refine lv_iload_n S.1 S.2.1 dX9_kindOf_5 rfl (lv_at hl 1 rfl) ?_
  refine lv_iadd S.1 S.2.1 dX9_kindOf_6 ?_
  refine lv_topi (fun x_1 ex_1 => ?_)
  have tx_1 : x_1.toInt = 4 + (k.toInt) := addI (A := 4) (B := k.toInt) ex_1 rfl rfl (by omega) (by omega)
  have hin_2 : vp_in x_1 192 := (in_of (n := 192) (by omega) (by omega))
  refine va_iald S.1 S.2.1 hK.1 hP 1 0 rfl rfl hin_2 dX9_kindOf_7 ?_
  refine lv_topi (fun x_3 ex_3 => ?_)
  have tx_3 := cyg_A (x := x_3) (show prd cyK 192 cy by assumption) (by omega) ex_3
  have bx_3 : x_3.toInt = (cy (4 + k.toInt.toNat)).toInt := by rw [ex_3, show (x_1).toNatClampNeg = 4 + k.toInt.toNat from by show (x_1).toInt.toNat = _; omega]
  refine lv_istore_n (lv' := [(2, .int x_3), (0, .ref y), (1, .int k)]) S.1 S.2.1 dX9_kindOf_8 rfl hl (by decide) rfl (fun ls hl => ?_)
  refine lv_iload_n S.1 S.2.1 dX9_kindOf_9 rfl (lv_at hl 0 rfl) ?_
  refine lv_bipush (v := (-3)) S.1 S.2.1 dX9_kindOf_10 (by decide) ?_
  refine lv_icmp_ne (tgt := 19) S.1 S.2.1 dX9_kindOf_12 (by decide) (fun c_4 => ?_) (fun c_4 => ?_)
  · rw [eq2 (a := x_3) (b := (-3)) (A := x_3.toInt) (B := -3) rfl rfl] at c_4
    refine lv_iload_n S.1 S.2.1 dX9_kindOf_19 rfl (lv_at hl 0 rfl) ?_
    refine lv_bipush (v := (-2)) S.1 S.2.1 dX9_kindOf_20 (by decide) ?_
    refine lv_icmp_ne (tgt := 29) S.1 S.2.1 dX9_kindOf_22 (by decide) (fun c_5 => ?_) (fun c_5 => ?_)
    · rw [eq2 (a := x_3) (b := (-2)) (A := x_3.toInt) (B := -2) rfl rfl] at c_5
      refine lv_iload_n S.1 S.2.1 dX9_kindOf_29 rfl (lv_at hl 0 rfl) ?_
      refine lv_iconst (v := (-1)) S.1 S.2.1 dX9_kindOf_30 (by decide) ?_
      refine lv_icmp_ne (tgt := 38) S.1 S.2.1 dX9_kindOf_31 (by decide) (fun c_6 => ?_) (fun c_6 => ?_)
      · rw [eq2 (a := x_3) (b := (-1)) (A := x_3.toInt) (B := -1) rfl rfl] at c_6
        refine lv_aload_n S.1 S.2.1 dX9_kindOf_38 rfl (lv_at hl 1 rfl) ?_
        refine b_get (v := .ref y_city) S iX9 hK hP 0 rfl rfl 5 (by decide) (by decide +kernel) rfl dX9_kindOf_39 ?_
        refine lv_bipush (v := (84)) S.1 S.2.1 dX9_kindOf_42 (by decide) ?_
        refine lv_iload_n S.1 S.2.1 dX9_kindOf_44 rfl (lv_at hl 0 rfl) ?_
        refine lv_iadd S.1 S.2.1 dX9_kindOf_45 ?_
        refine lv_topi (fun x_7 ex_7 => ?_)
        have tx_7 : x_7.toInt = 84 + (x_3.toInt) := addI (A := 84) (B := x_3.toInt) ex_7 rfl rfl (by omega) (by omega)
        have hin_8 : vp_in x_7 192 := (in_of (n := 192) (by omega) (by omega))
        refine va_iald S.1 S.2.1 hK.1 hP 1 0 rfl rfl hin_8 dX9_kindOf_46 ?_
        refine lv_topi (fun x_9 ex_9 => ?_)
        have tx_9 := cyg_P (x := x_9) (show prd cyK 192 cy by assumption) (by omega) ex_9
        refine lv_bipush (v := (50)) S.1 S.2.1 dX9_kindOf_47 (by decide) ?_
        refine lv_icmp_lt (tgt := 56) S.1 S.2.1 dX9_kindOf_49 (by decide) (fun c_10 => ?_) (fun c_10 => ?_)
        · rw [lt2 (a := x_9) (b := 50) (A := x_9.toInt) (B := 50) rfl rfl] at c_10
          refine lv_iconst (v := (3)) S.1 S.2.1 dX9_kindOf_56 (by decide) ?_
          have lq3 : Int32.toInt (3) = 3 := by decide
          exact b_iret S.1 S.2.1 X.2.1 X.2.2.1 hP hD hS ⟨(by first | assumption | omega | decide | (rw [show Int32.toInt 0 = 0 from rfl]; omega)), (by first | assumption | omega | decide | (rw [show Int32.toInt 0 = 0 from rfl]; omega)), rfl⟩ dX9_kindOf_57
        · rw [lt2 (a := x_9) (b := 50) (A := x_9.toInt) (B := 50) rfl rfl] at c_10
          refine lv_iconst (v := (5)) S.1 S.2.1 dX9_kindOf_52 (by decide) ?_
          refine lv_goto (tgt := 57) S.1 S.2.1 dX9_kindOf_53 (by decide) ?_
          have lq5 : Int32.toInt (5) = 5 := by decide
          exact b_iret S.1 S.2.1 X.2.1 X.2.2.1 hP hD hS ⟨(by first | assumption | omega | decide | (rw [show Int32.toInt 0 = 0 from rfl]; omega)), (by first | assumption | omega | decide | (rw [show Int32.toInt 0 = 0 from rfl]; omega)), rfl⟩ dX9_kindOf_57
      · rw [eq2 (a := x_3) (b := (-1)) (A := x_3.toInt) (B := -1) rfl rfl] at c_6
        refine lv_iconst (v := (4)) S.1 S.2.1 dX9_kindOf_34 (by decide) ?_
        refine lv_goto (tgt := 57) S.1 S.2.1 dX9_kindOf_35 (by decide) ?_
        have lq4 : Int32.toInt (4) = 4 := by decide
        exact b_iret S.1 S.2.1 X.2.1 X.2.2.1 hP hD hS ⟨(by first | assumption | omega | decide | (rw [show Int32.toInt 0 = 0 from rfl]; omega)), (by first | assumption | omega | decide | (rw [show Int32.toInt 0 = 0 from rfl]; omega)), rfl⟩ dX9_kindOf_57
    · rw [eq2 (a := x_3) (b := (-2)) (A := x_3.toInt) (B := -2) rfl rfl] at c_5
      refine lv_iconst (v := (2)) S.1 S.2.1 dX9_kindOf_25 (by decide) ?_
      refine lv_goto (tgt := 57) S.1 S.2.1 dX9_kindOf_26 (by decide) ?_
      have lq2 : Int32.toInt (2) = 2 := by decide
      exact b_iret S.1 S.2.1 X.2.1 X.2.2.1 hP hD hS ⟨(by first | assumption | omega | decide | (rw [show Int32.toInt 0 = 0 from rfl]; omega)), (by first | assumption | omega | decide | (rw [show Int32.toInt 0 = 0 from rfl]; omega)), rfl⟩ dX9_kindOf_57
  · rw [eq2 (a := x_3) (b := (-3)) (A := x_3.toInt) (B := -3) rfl rfl] at c_4
    refine lv_iconst (v := (1)) S.1 S.2.1 dX9_kindOf_15 (by decide) ?_
    refine lv_goto (tgt := 57) S.1 S.2.1 dX9_kindOf_16 (by decide) ?_
    have lq1 : Int32.toInt (1) = 1 := by decide
    exact b_iret S.1 S.2.1 X.2.1 X.2.2.1 hP hD hS ⟨(by first | assumption | omega | decide | (rw [show Int32.toInt 0 = 0 from rfl]; omega)), (by first | assumption | omega | decide | (rw [show Int32.toInt 0 = 0 from rfl]; omega)), rfl⟩ dX9_kindOf_57
set_option maxHeartbeats 4000000 in
set_option maxRecDepth 100000 in
theorem s_X9_kind (l : Launch) (D : va_G) (cI cZ cC cS : ClassId) (sq : Nat → Nat) (sz : Nat) (y : Nat) (y_city : Nat) (k : Int32) (m_thrown : Int32) (m_status : Int32) (y_lane : Nat) (y_many : Nat) (y_item : Nat) (y_fresh : Nat) (m_isThere : Int32) (y_tape : Nat) (m_taped : Int32) (m_latest : Int32) (m_length : Int32) (m_cursor : Int32) (m_token : Int32) (m_start : Int32) (m_till : Int32) (m_fault : Int32) (m_faultAt : Int32) (m_seen : Int32) (m_mirrors : Int32) (y_cost : Nat) (y_away : Nat) (y_fee : Nat) (y_goesTo : Nat) (y_priceWas : Nat) (y_isKept : Nat) (y_kept : Nat) (y_trace : Nat) (m_traced : Int32) (cy : Nat → Int32) (hpd_cy : prd cyK 192 cy) : mI l yX9_kind wsX9_kind 50 2000 D (tyW cI cZ cC cS) sq [(y, .inr (9, [.int m_thrown, .int m_status, .ref y_lane, .ref y_many, .ref y_item, .ref y_city, .ref y_fresh, .int m_isThere, .ref y_tape, .int m_taped, .int m_latest, .int m_length, .int m_cursor, .int m_token, .int m_start, .int m_till, .int m_fault, .int m_faultAt, .int m_seen, .int m_mirrors, .ref y_cost, .ref y_away, .ref y_fee, .ref y_goesTo, .ref y_priceWas, .ref y_isKept, .ref y_kept, .ref y_trace, .int m_traced])), (y_city, .inl (cI, 192, .inl cy))] sz [.ref y, .int k] (fun r w => (w = [(y, .inr (9, [.int 0, .int m_status, .ref y_lane, .ref y_many, .ref y_item, .ref y_city, .ref y_fresh, .int m_isThere, .ref y_tape, .int m_taped, .int m_latest, .int m_length, .int m_cursor, .int m_token, .int m_start, .int m_till, .int m_fault, .int m_faultAt, .int m_seen, .int m_mirrors, .ref y_cost, .ref y_away, .ref y_fee, .ref y_goesTo, .ref y_priceWas, .ref y_isKept, .ref y_kept, .ref y_trace, .int m_traced])), (y_city, .inl (cI, 192, .inl cy))])) := by
  refine b_metI (cc := cX9_kind) (maxL := 2) (ret := (some .int)) (by decide) rfl (Nat.le_of_ble_eq_true rfl) ?_
  intro p e s m below meth c ls A H X hsz hP hK hT hD hA hS hl
  have S : CallFix p m c cX9_kind 2 s ([.ref y, .int k] : List Value).toArray wsX9_kind RX9 := X.1
  have hl : lv_has ls 2 [(0, .ref y), (1, .int k)] := hl
  have iX9 := jX9_kind_X9
  refine lv_aload_n S.1 S.2.1 dX9_kind_0 rfl (lv_at hl 0 rfl) ?_
  refine lv_iconst (v := (0)) S.1 S.2.1 dX9_kind_1 (by decide) ?_
  refine b_put (v := .int 0) S iX9 tyX9 tyX9_ok nmX9 hK hP hD hS 0 rfl rfl 0 (by decide) (by decide +kernel) rfl rfl rfl (Nat.le_of_ble_eq_true rfl) dX9_kind_2 (fun H locs hP hD hS => ?_)
  have hP : va_P D vwCl [(y, .inr (9, [.int 0, .int m_status, .ref y_lane, .ref y_many, .ref y_item, .ref y_city, .ref y_fresh, .int m_isThere, .ref y_tape, .int m_taped, .int m_latest, .int m_length, .int m_cursor, .int m_token, .int m_start, .int m_till, .int m_fault, .int m_faultAt, .int m_seen, .int m_mirrors, .ref y_cost, .ref y_away, .ref y_fee, .ref y_goesTo, .ref y_priceWas, .ref y_isKept, .ref y_kept, .ref y_trace, .int m_traced])), (y_city, .inl (cI, 192, .inl cy))] H := hP
  have hD : va_D A [(y, .inr (9, [.int 0, .int m_status, .ref y_lane, .ref y_many, .ref y_item, .ref y_city, .ref y_fresh, .int m_isThere, .ref y_tape, .int m_taped, .int m_latest, .int m_length, .int m_cursor, .int m_token, .int m_start, .int m_till, .int m_fault, .int m_faultAt, .int m_seen, .int m_mirrors, .ref y_cost, .ref y_away, .ref y_fee, .ref y_goesTo, .ref y_priceWas, .ref y_isKept, .ref y_kept, .ref y_trace, .int m_traced])), (y_city, .inl (cI, 192, .inl cy))] := hD
  refine lv_aload_n S.1 S.2.1 dX9_kind_5 rfl (lv_at hl 0 rfl) ?_
  refine lv_iload_n S.1 S.2.1 dX9_kind_6 rfl (lv_at hl 1 rfl) ?_
  refine b_ai (wr := []) (b_runV (q0 := 0) (ci := 9) (As := [.int k]) (s_X9_isCell l D cI cZ cC cS sq H.size y y_city k (0) m_status y_lane y_many y_item y_fresh m_isThere y_tape m_taped m_latest m_length m_cursor m_token m_start m_till m_fault m_faultAt m_seen m_mirrors y_cost y_away y_fee y_goesTo y_priceWas y_isKept y_kept y_trace m_traced cy (by first | assumption | omega | decide | (rw [show Int32.toInt 0 = 0 from rfl]; omega))) S gX9_kind_X9_isCell rfl hdV_X9_isCell ⟨Nat.le_of_ble_eq_true rfl, Nat.le_of_ble_eq_true rfl⟩ ⟨Nat.le_of_ble_eq_true rfl, Nat.le_of_ble_eq_true rfl⟩ hK hT hS hA hP hD rfl rfl [0, 1] rfl (by decide) rfl hl.1 rfl (Nat.le_of_ble_eq_true rfl) dX9_kind_7) hP hD hS hA [0, 1] [] rfl rfl (by decide) (by decide) (fun r_1 w_2 H locs hw_3 hP hD hS => ?_)
  rcases hw_3 with ⟨hf_4, rfl, rfl⟩ | ⟨hf_5, rfl, rfl⟩
  · have hP : va_P D vwCl [(y, .inr (9, [.int 0, .int m_status, .ref y_lane, .ref y_many, .ref y_item, .ref y_city, .ref y_fresh, .int m_isThere, .ref y_tape, .int m_taped, .int m_latest, .int m_length, .int m_cursor, .int m_token, .int m_start, .int m_till, .int m_fault, .int m_faultAt, .int m_seen, .int m_mirrors, .ref y_cost, .ref y_away, .ref y_fee, .ref y_goesTo, .ref y_priceWas, .ref y_isKept, .ref y_kept, .ref y_trace, .int m_traced])), (y_city, .inl (cI, 192, .inl cy))] H := hP
    have hD : va_D A [(y, .inr (9, [.int 0, .int m_status, .ref y_lane, .ref y_many, .ref y_item, .ref y_city, .ref y_fresh, .int m_isThere, .ref y_tape, .int m_taped, .int m_latest, .int m_length, .int m_cursor, .int m_token, .int m_start, .int m_till, .int m_fault, .int m_faultAt, .int m_seen, .int m_mirrors, .ref y_cost, .ref y_away, .ref y_fee, .ref y_goesTo, .ref y_priceWas, .ref y_isKept, .ref y_kept, .ref y_trace, .int m_traced])), (y_city, .inl (cI, 192, .inl cy))] := hD
    refine lv_if_eq (tgt := 21) S.1 S.2.1 dX9_kind_10 (by decide) (fun c_6 => absurd c_6 (by decide)) (fun c_6 => ?_)
    refine lv_aload_n S.1 S.2.1 dX9_kind_13 rfl (lv_at hl 0 rfl) ?_
    refine lv_iload_n S.1 S.2.1 dX9_kind_14 rfl (lv_at hl 1 rfl) ?_
    refine b_ai (wr := []) (b_runV (q0 := 0) (ci := 9) (As := [.int k]) (s_X9_kindOf l D cI cZ cC cS sq H.size y y_city k (0) m_status y_lane y_many y_item y_fresh m_isThere y_tape m_taped m_latest m_length m_cursor m_token m_start m_till m_fault m_faultAt m_seen m_mirrors y_cost y_away y_fee y_goesTo y_priceWas y_isKept y_kept y_trace m_traced cy (by first | assumption | omega | decide | (rw [show Int32.toInt 0 = 0 from rfl]; omega)) (by first | assumption | omega | decide | (rw [show Int32.toInt 0 = 0 from rfl]; omega))) S gX9_kind_X9_kindOf rfl hdV_X9_kindOf ⟨Nat.le_of_ble_eq_true rfl, Nat.le_of_ble_eq_true rfl⟩ ⟨Nat.le_of_ble_eq_true rfl, Nat.le_of_ble_eq_true rfl⟩ hK hT hS hA hP hD rfl rfl [0, 1] rfl (by decide) rfl hl.1 rfl (Nat.le_of_ble_eq_true rfl) dX9_kind_15) hP hD hS hA [0, 1] [] rfl rfl (by decide) (by decide) (fun r_7 w_8 H locs hw_9 hP hD hS => ?_)
    obtain ⟨hf_10, hf_11, rfl⟩ := hw_9
    have hP : va_P D vwCl [(y, .inr (9, [.int 0, .int m_status, .ref y_lane, .ref y_many, .ref y_item, .ref y_city, .ref y_fresh, .int m_isThere, .ref y_tape, .int m_taped, .int m_latest, .int m_length, .int m_cursor, .int m_token, .int m_start, .int m_till, .int m_fault, .int m_faultAt, .int m_seen, .int m_mirrors, .ref y_cost, .ref y_away, .ref y_fee, .ref y_goesTo, .ref y_priceWas, .ref y_isKept, .ref y_kept, .ref y_trace, .int m_traced])), (y_city, .inl (cI, 192, .inl cy))] H := hP
    have hD : va_D A [(y, .inr (9, [.int 0, .int m_status, .ref y_lane, .ref y_many, .ref y_item, .ref y_city, .ref y_fresh, .int m_isThere, .ref y_tape, .int m_taped, .int m_latest, .int m_length, .int m_cursor, .int m_token, .int m_start, .int m_till, .int m_fault, .int m_faultAt, .int m_seen, .int m_mirrors, .ref y_cost, .ref y_away, .ref y_fee, .ref y_goesTo, .ref y_priceWas, .ref y_isKept, .ref y_kept, .ref y_trace, .int m_traced])), (y_city, .inl (cI, 192, .inl cy))] := hD
    refine lv_goto (tgt := 23) S.1 S.2.1 dX9_kind_18 (by decide) ?_
    exact b_iret S.1 S.2.1 X.2.1 X.2.2.1 hP hD hS rfl dX9_kind_23
  · have hP : va_P D vwCl [(y, .inr (9, [.int 0, .int m_status, .ref y_lane, .ref y_many, .ref y_item, .ref y_city, .ref y_fresh, .int m_isThere, .ref y_tape, .int m_taped, .int m_latest, .int m_length, .int m_cursor, .int m_token, .int m_start, .int m_till, .int m_fault, .int m_faultAt, .int m_seen, .int m_mirrors, .ref y_cost, .ref y_away, .ref y_fee, .ref y_goesTo, .ref y_priceWas, .ref y_isKept, .ref y_kept, .ref y_trace, .int m_traced])), (y_city, .inl (cI, 192, .inl cy))] H := hP
    have hD : va_D A [(y, .inr (9, [.int 0, .int m_status, .ref y_lane, .ref y_many, .ref y_item, .ref y_city, .ref y_fresh, .int m_isThere, .ref y_tape, .int m_taped, .int m_latest, .int m_length, .int m_cursor, .int m_token, .int m_start, .int m_till, .int m_fault, .int m_faultAt, .int m_seen, .int m_mirrors, .ref y_cost, .ref y_away, .ref y_fee, .ref y_goesTo, .ref y_priceWas, .ref y_isKept, .ref y_kept, .ref y_trace, .int m_traced])), (y_city, .inl (cI, 192, .inl cy))] := hD
    refine lv_if_eq (tgt := 21) S.1 S.2.1 dX9_kind_10 (by decide) (fun c_12 => ?_) (fun c_12 => absurd c_12 (by decide))
    refine lv_ldc (v := (-1000001)) S.1 S.2.1 S.2.2.2.1 (S.2.2.2.2 (.constant RX9 73 (-1000001)) (by decide +kernel)) dX9_kind_21 ?_
    have lqm1000001 : Int32.toInt (-1000001) = -1000001 := by decide
    exact b_iret S.1 S.2.1 X.2.1 X.2.2.1 hP hD hS rfl dX9_kind_23
set_option maxHeartbeats 4000000 in
set_option maxRecDepth 100000 in
theorem s_X9_as (l : Launch) (D : va_G) (cI cZ cC cS : ClassId) (sq : Nat → Nat) (sz : Nat) (y : Nat) (y_city : Nat) (k : Int32) (kd : Int32) (m_thrown : Int32) (m_status : Int32) (y_lane : Nat) (y_many : Nat) (y_item : Nat) (y_fresh : Nat) (m_isThere : Int32) (y_tape : Nat) (m_taped : Int32) (m_latest : Int32) (m_length : Int32) (m_cursor : Int32) (m_token : Int32) (m_start : Int32) (m_till : Int32) (m_fault : Int32) (m_faultAt : Int32) (m_seen : Int32) (m_mirrors : Int32) (y_cost : Nat) (y_away : Nat) (y_fee : Nat) (y_goesTo : Nat) (y_priceWas : Nat) (y_isKept : Nat) (y_kept : Nat) (y_trace : Nat) (m_traced : Int32) (cy : Nat → Int32) (hpd_cy : prd cyK 192 cy) : mI l yX9_as wsX9_as 50 2000 D (tyW cI cZ cC cS) sq [(y, .inr (9, [.int m_thrown, .int m_status, .ref y_lane, .ref y_many, .ref y_item, .ref y_city, .ref y_fresh, .int m_isThere, .ref y_tape, .int m_taped, .int m_latest, .int m_length, .int m_cursor, .int m_token, .int m_start, .int m_till, .int m_fault, .int m_faultAt, .int m_seen, .int m_mirrors, .ref y_cost, .ref y_away, .ref y_fee, .ref y_goesTo, .ref y_priceWas, .ref y_isKept, .ref y_kept, .ref y_trace, .int m_traced])), (y_city, .inl (cI, 192, .inl cy))] sz [.ref y, .int k, .int kd] (fun r w => (∃ (m_status2 : Int32), w = [(y, .inr (9, [.int 0, .int m_status2, .ref y_lane, .ref y_many, .ref y_item, .ref y_city, .ref y_fresh, .int m_isThere, .ref y_tape, .int m_taped, .int m_latest, .int m_length, .int m_cursor, .int m_token, .int m_start, .int m_till, .int m_fault, .int m_faultAt, .int m_seen, .int m_mirrors, .ref y_cost, .ref y_away, .ref y_fee, .ref y_goesTo, .ref y_priceWas, .ref y_isKept, .ref y_kept, .ref y_trace, .int m_traced])), (y_city, .inl (cI, 192, .inl cy))])) := by
  refine b_metI (cc := cX9_as) (maxL := 3) (ret := (some .int)) (by decide) rfl (Nat.le_of_ble_eq_true rfl) ?_
  intro p e s m below meth c ls A H X hsz hP hK hT hD hA hS hl
  have S : CallFix p m c cX9_as 3 s ([.ref y, .int k, .int kd] : List Value).toArray wsX9_as RX9 := X.1
  have hl : lv_has ls 3 [(0, .ref y), (1, .int k), (2, .int kd)] := hl
  have iX9 := jX9_as_X9
  refine lv_aload_n S.1 S.2.1 dX9_as_0 rfl (lv_at hl 0 rfl) ?_
  refine lv_iconst (v := (0)) S.1 S.2.1 dX9_as_1 (by decide) ?_
  refine b_put (v := .int 0) S iX9 tyX9 tyX9_ok nmX9 hK hP hD hS 0 rfl rfl 0 (by decide) (by decide +kernel) rfl rfl rfl (Nat.le_of_ble_eq_true rfl) dX9_as_2 (fun H locs hP hD hS => ?_)
  have hP : va_P D vwCl [(y, .inr (9, [.int 0, .int m_status, .ref y_lane, .ref y_many, .ref y_item, .ref y_city, .ref y_fresh, .int m_isThere, .ref y_tape, .int m_taped, .int m_latest, .int m_length, .int m_cursor, .int m_token, .int m_start, .int m_till, .int m_fault, .int m_faultAt, .int m_seen, .int m_mirrors, .ref y_cost, .ref y_away, .ref y_fee, .ref y_goesTo, .ref y_priceWas, .ref y_isKept, .ref y_kept, .ref y_trace, .int m_traced])), (y_city, .inl (cI, 192, .inl cy))] H := hP
  have hD : va_D A [(y, .inr (9, [.int 0, .int m_status, .ref y_lane, .ref y_many, .ref y_item, .ref y_city, .ref y_fresh, .int m_isThere, .ref y_tape, .int m_taped, .int m_latest, .int m_length, .int m_cursor, .int m_token, .int m_start, .int m_till, .int m_fault, .int m_faultAt, .int m_seen, .int m_mirrors, .ref y_cost, .ref y_away, .ref y_fee, .ref y_goesTo, .ref y_priceWas, .ref y_isKept, .ref y_kept, .ref y_trace, .int m_traced])), (y_city, .inl (cI, 192, .inl cy))] := hD
  refine lv_aload_n S.1 S.2.1 dX9_as_5 rfl (lv_at hl 0 rfl) ?_
  refine lv_iload_n S.1 S.2.1 dX9_as_6 rfl (lv_at hl 1 rfl) ?_
  refine b_ai (wr := []) (b_runV (q0 := 0) (ci := 9) (As := [.int k]) (s_X9_isCell l D cI cZ cC cS sq H.size y y_city k (0) m_status y_lane y_many y_item y_fresh m_isThere y_tape m_taped m_latest m_length m_cursor m_token m_start m_till m_fault m_faultAt m_seen m_mirrors y_cost y_away y_fee y_goesTo y_priceWas y_isKept y_kept y_trace m_traced cy (by first | assumption | omega | decide | (rw [show Int32.toInt 0 = 0 from rfl]; omega))) S gX9_as_X9_isCell rfl hdV_X9_isCell ⟨Nat.le_of_ble_eq_true rfl, Nat.le_of_ble_eq_true rfl⟩ ⟨Nat.le_of_ble_eq_true rfl, Nat.le_of_ble_eq_true rfl⟩ hK hT hS hA hP hD rfl rfl [0, 1] rfl (by decide) rfl hl.1 rfl (Nat.le_of_ble_eq_true rfl) dX9_as_7) hP hD hS hA [0, 1] [] rfl rfl (by decide) (by decide) (fun r_1 w_2 H locs hw_3 hP hD hS => ?_)
  rcases hw_3 with ⟨hf_4, rfl, rfl⟩ | ⟨hf_5, rfl, rfl⟩
  · have hP : va_P D vwCl [(y, .inr (9, [.int 0, .int m_status, .ref y_lane, .ref y_many, .ref y_item, .ref y_city, .ref y_fresh, .int m_isThere, .ref y_tape, .int m_taped, .int m_latest, .int m_length, .int m_cursor, .int m_token, .int m_start, .int m_till, .int m_fault, .int m_faultAt, .int m_seen, .int m_mirrors, .ref y_cost, .ref y_away, .ref y_fee, .ref y_goesTo, .ref y_priceWas, .ref y_isKept, .ref y_kept, .ref y_trace, .int m_traced])), (y_city, .inl (cI, 192, .inl cy))] H := hP
    have hD : va_D A [(y, .inr (9, [.int 0, .int m_status, .ref y_lane, .ref y_many, .ref y_item, .ref y_city, .ref y_fresh, .int m_isThere, .ref y_tape, .int m_taped, .int m_latest, .int m_length, .int m_cursor, .int m_token, .int m_start, .int m_till, .int m_fault, .int m_faultAt, .int m_seen, .int m_mirrors, .ref y_cost, .ref y_away, .ref y_fee, .ref y_goesTo, .ref y_priceWas, .ref y_isKept, .ref y_kept, .ref y_trace, .int m_traced])), (y_city, .inl (cI, 192, .inl cy))] := hD
    refine lv_if_eq (tgt := 25) S.1 S.2.1 dX9_as_10 (by decide) (fun c_6 => absurd c_6 (by decide)) (fun c_6 => ?_)
    refine lv_iload_n S.1 S.2.1 dX9_as_13 rfl (lv_at hl 2 rfl) ?_
    refine lv_i2l (v := kd.toInt64) S.1 S.2.1 dX9_as_14 rfl ?_
    refine lv_lconst (v := 0) S.1 S.2.1 dX9_as_15 (by decide) ?_
    refine lv_ldc2 (v := (5)) S.1 S.2.1 S.2.2.2.1 (S.2.2.2.2 (.constantLong RX9 231 (5)) (by decide +kernel)) dX9_as_16 ?_
    refine b_ai (wr := [(y, .inr (9, [.int 0, .int m_status, .ref y_lane, .ref y_many, .ref y_item, .ref y_city, .ref y_fresh, .int m_isThere, .ref y_tape, .int m_taped, .int m_latest, .int m_length, .int m_cursor, .int m_token, .int m_start, .int m_till, .int m_fault, .int m_faultAt, .int m_seen, .int m_mirrors, .ref y_cost, .ref y_away, .ref y_fee, .ref y_goesTo, .ref y_priceWas, .ref y_isKept, .ref y_kept, .ref y_trace, .int m_traced])), (y_city, .inl (cI, 192, .inl cy))]) (b_runS (As := [.long (kd.toInt64), .long 0, .long 5]) (s_X9_in l D cI cZ cC cS sq H.size (kd.toInt64) (0) (5)) S gX9_as_X9_in rfl hdS_X9_in ⟨Nat.le_of_ble_eq_true rfl, Nat.le_of_ble_eq_true rfl⟩ ⟨Nat.le_of_ble_eq_true rfl, Nat.le_of_ble_eq_true rfl⟩ hK hT hS hA hP hD [] rfl (by decide) rfl hl.1 rfl (Nat.le_of_ble_eq_true rfl) dX9_as_19) hP hD hS hA [] [0, 1] rfl rfl (by decide) (by decide) (fun r_7 w_8 H locs hw_9 hP hD hS => ?_)
    rcases hw_9 with ⟨hf_10, rfl, rfl⟩ | ⟨hf_11, rfl, rfl⟩
    · have hf_10 : (0) ≤ kd.toInt ∧ kd.toInt ≤ (5) := by simp only [Int32.toInt_toInt64] at hf_10; exact hf_10
      have hP : va_P D vwCl [(y, .inr (9, [.int 0, .int m_status, .ref y_lane, .ref y_many, .ref y_item, .ref y_city, .ref y_fresh, .int m_isThere, .ref y_tape, .int m_taped, .int m_latest, .int m_length, .int m_cursor, .int m_token, .int m_start, .int m_till, .int m_fault, .int m_faultAt, .int m_seen, .int m_mirrors, .ref y_cost, .ref y_away, .ref y_fee, .ref y_goesTo, .ref y_priceWas, .ref y_isKept, .ref y_kept, .ref y_trace, .int m_traced])), (y_city, .inl (cI, 192, .inl cy))] H := hP
      have hD : va_D A [(y, .inr (9, [.int 0, .int m_status, .ref y_lane, .ref y_many, .ref y_item, .ref y_city, .ref y_fresh, .int m_isThere, .ref y_tape, .int m_taped, .int m_latest, .int m_length, .int m_cursor, .int m_token, .int m_start, .int m_till, .int m_fault, .int m_faultAt, .int m_seen, .int m_mirrors, .ref y_cost, .ref y_away, .ref y_fee, .ref y_goesTo, .ref y_priceWas, .ref y_isKept, .ref y_kept, .ref y_trace, .int m_traced])), (y_city, .inl (cI, 192, .inl cy))] := hD
      refine lv_if_ne (tgt := 28) S.1 S.2.1 dX9_as_22 (by decide) (fun c_12 => ?_) (fun c_12 => absurd c_12 (by decide))
      refine lv_aload_n S.1 S.2.1 dX9_as_28 rfl (lv_at hl 0 rfl) ?_
      refine lv_iconst (v := (0)) S.1 S.2.1 dX9_as_29 (by decide) ?_
      refine b_put (v := .int 0) S iX9 tyX9 tyX9_ok nmX9 hK hP hD hS 0 rfl rfl 1 (by decide) (by decide +kernel) rfl rfl rfl (Nat.le_of_ble_eq_true rfl) dX9_as_30 (fun H locs hP hD hS => ?_)
      have hP : va_P D vwCl [(y, .inr (9, [.int 0, .int 0, .ref y_lane, .ref y_many, .ref y_item, .ref y_city, .ref y_fresh, .int m_isThere, .ref y_tape, .int m_taped, .int m_latest, .int m_length, .int m_cursor, .int m_token, .int m_start, .int m_till, .int m_fault, .int m_faultAt, .int m_seen, .int m_mirrors, .ref y_cost, .ref y_away, .ref y_fee, .ref y_goesTo, .ref y_priceWas, .ref y_isKept, .ref y_kept, .ref y_trace, .int m_traced])), (y_city, .inl (cI, 192, .inl cy))] H := hP
      have hD : va_D A [(y, .inr (9, [.int 0, .int 0, .ref y_lane, .ref y_many, .ref y_item, .ref y_city, .ref y_fresh, .int m_isThere, .ref y_tape, .int m_taped, .int m_latest, .int m_length, .int m_cursor, .int m_token, .int m_start, .int m_till, .int m_fault, .int m_faultAt, .int m_seen, .int m_mirrors, .ref y_cost, .ref y_away, .ref y_fee, .ref y_goesTo, .ref y_priceWas, .ref y_isKept, .ref y_kept, .ref y_trace, .int m_traced])), (y_city, .inl (cI, 192, .inl cy))] := hD
      refine lv_aload_n S.1 S.2.1 dX9_as_33 rfl (lv_at hl 0 rfl) ?_
      refine lv_iload_n S.1 S.2.1 dX9_as_34 rfl (lv_at hl 1 rfl) ?_
      refine b_ai (wr := []) (b_runV (q0 := 0) (ci := 9) (As := [.int k]) (s_X9_kindOf l D cI cZ cC cS sq H.size y y_city k (0) (0) y_lane y_many y_item y_fresh m_isThere y_tape m_taped m_latest m_length m_cursor m_token m_start m_till m_fault m_faultAt m_seen m_mirrors y_cost y_away y_fee y_goesTo y_priceWas y_isKept y_kept y_trace m_traced cy (by first | assumption | omega | decide | (rw [show Int32.toInt 0 = 0 from rfl]; omega)) (by first | assumption | omega | decide | (rw [show Int32.toInt 0 = 0 from rfl]; omega))) S gX9_as_X9_kindOf rfl hdV_X9_kindOf ⟨Nat.le_of_ble_eq_true rfl, Nat.le_of_ble_eq_true rfl⟩ ⟨Nat.le_of_ble_eq_true rfl, Nat.le_of_ble_eq_true rfl⟩ hK hT hS hA hP hD rfl rfl [0, 1] rfl (by decide) rfl hl.1 rfl (Nat.le_of_ble_eq_true rfl) dX9_as_35) hP hD hS hA [0, 1] [] rfl rfl (by decide) (by decide) (fun r_13 w_14 H locs hw_15 hP hD hS => ?_)
      obtain ⟨hf_16, hf_17, rfl⟩ := hw_15
      have hP : va_P D vwCl [(y, .inr (9, [.int 0, .int 0, .ref y_lane, .ref y_many, .ref y_item, .ref y_city, .ref y_fresh, .int m_isThere, .ref y_tape, .int m_taped, .int m_latest, .int m_length, .int m_cursor, .int m_token, .int m_start, .int m_till, .int m_fault, .int m_faultAt, .int m_seen, .int m_mirrors, .ref y_cost, .ref y_away, .ref y_fee, .ref y_goesTo, .ref y_priceWas, .ref y_isKept, .ref y_kept, .ref y_trace, .int m_traced])), (y_city, .inl (cI, 192, .inl cy))] H := hP
      have hD : va_D A [(y, .inr (9, [.int 0, .int 0, .ref y_lane, .ref y_many, .ref y_item, .ref y_city, .ref y_fresh, .int m_isThere, .ref y_tape, .int m_taped, .int m_latest, .int m_length, .int m_cursor, .int m_token, .int m_start, .int m_till, .int m_fault, .int m_faultAt, .int m_seen, .int m_mirrors, .ref y_cost, .ref y_away, .ref y_fee, .ref y_goesTo, .ref y_priceWas, .ref y_isKept, .ref y_kept, .ref y_trace, .int m_traced])), (y_city, .inl (cI, 192, .inl cy))] := hD
      refine lv_iload_n S.1 S.2.1 dX9_as_38 rfl (lv_at hl 2 rfl) ?_
      refine b_ai (wr := [(y, .inr (9, [.int 0, .int 0, .ref y_lane, .ref y_many, .ref y_item, .ref y_city, .ref y_fresh, .int m_isThere, .ref y_tape, .int m_taped, .int m_latest, .int m_length, .int m_cursor, .int m_token, .int m_start, .int m_till, .int m_fault, .int m_faultAt, .int m_seen, .int m_mirrors, .ref y_cost, .ref y_away, .ref y_fee, .ref y_goesTo, .ref y_priceWas, .ref y_isKept, .ref y_kept, .ref y_trace, .int m_traced])), (y_city, .inl (cI, 192, .inl cy))]) (b_runS (As := [.int r_13, .int kd]) (s_X9_isOf2 l D cI cZ cC cS sq H.size r_13 kd) S gX9_as_X9_isOf rfl hdS_X9_isOf ⟨Nat.le_of_ble_eq_true rfl, Nat.le_of_ble_eq_true rfl⟩ ⟨Nat.le_of_ble_eq_true rfl, Nat.le_of_ble_eq_true rfl⟩ hK hT hS hA hP hD [] rfl (by decide) rfl hl.1 rfl (Nat.le_of_ble_eq_true rfl) dX9_as_39) hP hD hS hA [] [0, 1] rfl rfl (by decide) (by decide) (fun r_18 w_19 H locs hw_20 hP hD hS => ?_)
      rcases hw_20 with ⟨hf_21, rfl, rfl⟩ | ⟨hf_22, rfl, rfl⟩
      · have hP : va_P D vwCl [(y, .inr (9, [.int 0, .int 0, .ref y_lane, .ref y_many, .ref y_item, .ref y_city, .ref y_fresh, .int m_isThere, .ref y_tape, .int m_taped, .int m_latest, .int m_length, .int m_cursor, .int m_token, .int m_start, .int m_till, .int m_fault, .int m_faultAt, .int m_seen, .int m_mirrors, .ref y_cost, .ref y_away, .ref y_fee, .ref y_goesTo, .ref y_priceWas, .ref y_isKept, .ref y_kept, .ref y_trace, .int m_traced])), (y_city, .inl (cI, 192, .inl cy))] H := hP
        have hD : va_D A [(y, .inr (9, [.int 0, .int 0, .ref y_lane, .ref y_many, .ref y_item, .ref y_city, .ref y_fresh, .int m_isThere, .ref y_tape, .int m_taped, .int m_latest, .int m_length, .int m_cursor, .int m_token, .int m_start, .int m_till, .int m_fault, .int m_faultAt, .int m_seen, .int m_mirrors, .ref y_cost, .ref y_away, .ref y_fee, .ref y_goesTo, .ref y_priceWas, .ref y_isKept, .ref y_kept, .ref y_trace, .int m_traced])), (y_city, .inl (cI, 192, .inl cy))] := hD
        refine lv_if_eq (tgt := 49) S.1 S.2.1 dX9_as_42 (by decide) (fun c_23 => absurd c_23 (by decide)) (fun c_23 => ?_)
        refine lv_iload_n S.1 S.2.1 dX9_as_45 rfl (lv_at hl 1 rfl) ?_
        refine lv_goto (tgt := 54) S.1 S.2.1 dX9_as_46 (by decide) ?_
        have lq0 : Int32.toInt (0) = 0 := by decide
        exact b_iret S.1 S.2.1 X.2.1 X.2.2.1 hP hD hS ⟨(0), rfl⟩ dX9_as_54
      · have hP : va_P D vwCl [(y, .inr (9, [.int 0, .int 0, .ref y_lane, .ref y_many, .ref y_item, .ref y_city, .ref y_fresh, .int m_isThere, .ref y_tape, .int m_taped, .int m_latest, .int m_length, .int m_cursor, .int m_token, .int m_start, .int m_till, .int m_fault, .int m_faultAt, .int m_seen, .int m_mirrors, .ref y_cost, .ref y_away, .ref y_fee, .ref y_goesTo, .ref y_priceWas, .ref y_isKept, .ref y_kept, .ref y_trace, .int m_traced])), (y_city, .inl (cI, 192, .inl cy))] H := hP
        have hD : va_D A [(y, .inr (9, [.int 0, .int 0, .ref y_lane, .ref y_many, .ref y_item, .ref y_city, .ref y_fresh, .int m_isThere, .ref y_tape, .int m_taped, .int m_latest, .int m_length, .int m_cursor, .int m_token, .int m_start, .int m_till, .int m_fault, .int m_faultAt, .int m_seen, .int m_mirrors, .ref y_cost, .ref y_away, .ref y_fee, .ref y_goesTo, .ref y_priceWas, .ref y_isKept, .ref y_kept, .ref y_trace, .int m_traced])), (y_city, .inl (cI, 192, .inl cy))] := hD
        refine lv_if_eq (tgt := 49) S.1 S.2.1 dX9_as_42 (by decide) (fun c_24 => ?_) (fun c_24 => absurd c_24 (by decide))
        refine lv_aload_n S.1 S.2.1 dX9_as_49 rfl (lv_at hl 0 rfl) ?_
        refine lv_iconst (v := (3)) S.1 S.2.1 dX9_as_50 (by decide) ?_
        refine b_ai (wr := [(y_city, .inl (cI, 192, .inl cy))]) (b_runV (q0 := 0) (ci := 9) (As := [.int 3]) (s_X9_finding_3 l D cI cZ cC cS sq H.size y (0) (0) y_lane y_many y_item y_city y_fresh m_isThere y_tape m_taped m_latest m_length m_cursor m_token m_start m_till m_fault m_faultAt m_seen m_mirrors y_cost y_away y_fee y_goesTo y_priceWas y_isKept y_kept y_trace m_traced) S gX9_as_X9_finding rfl hdV_X9_finding ⟨Nat.le_of_ble_eq_true rfl, Nat.le_of_ble_eq_true rfl⟩ ⟨Nat.le_of_ble_eq_true rfl, Nat.le_of_ble_eq_true rfl⟩ hK hT hS hA hP hD rfl rfl [0] rfl (by decide) rfl hl.1 rfl (Nat.le_of_ble_eq_true rfl) dX9_as_51) hP hD hS hA [0] [1] rfl rfl (by decide) (by decide) (fun r_25 w_26 H locs hw_27 hP hD hS => ?_)
        obtain ⟨rfl, rfl⟩ := hw_27
        have hP : va_P D vwCl [(y_city, .inl (cI, 192, .inl cy)), (y, .inr (9, [.int 0, .int 3, .ref y_lane, .ref y_many, .ref y_item, .ref y_city, .ref y_fresh, .int m_isThere, .ref y_tape, .int m_taped, .int m_latest, .int m_length, .int m_cursor, .int m_token, .int m_start, .int m_till, .int m_fault, .int m_faultAt, .int m_seen, .int m_mirrors, .ref y_cost, .ref y_away, .ref y_fee, .ref y_goesTo, .ref y_priceWas, .ref y_isKept, .ref y_kept, .ref y_trace, .int m_traced]))] H := hP
        have hD : va_D A [(y_city, .inl (cI, 192, .inl cy)), (y, .inr (9, [.int 0, .int 3, .ref y_lane, .ref y_many, .ref y_item, .ref y_city, .ref y_fresh, .int m_isThere, .ref y_tape, .int m_taped, .int m_latest, .int m_length, .int m_cursor, .int m_token, .int m_start, .int m_till, .int m_fault, .int m_faultAt, .int m_seen, .int m_mirrors, .ref y_cost, .ref y_away, .ref y_fee, .ref y_goesTo, .ref y_priceWas, .ref y_isKept, .ref y_kept, .ref y_trace, .int m_traced]))] := hD
        have hP := hP.sub (ws' := [(y, .inr (9, [.int 0, .int 3, .ref y_lane, .ref y_many, .ref y_item, .ref y_city, .ref y_fresh, .int m_isThere, .ref y_tape, .int m_taped, .int m_latest, .int m_length, .int m_cursor, .int m_token, .int m_start, .int m_till, .int m_fault, .int m_faultAt, .int m_seen, .int m_mirrors, .ref y_cost, .ref y_away, .ref y_fee, .ref y_goesTo, .ref y_priceWas, .ref y_isKept, .ref y_kept, .ref y_trace, .int m_traced])), (y_city, .inl (cI, 192, .inl cy))]) [1, 0] rfl
        have hD := hD.sub (ws' := [(y, .inr (9, [.int 0, .int 3, .ref y_lane, .ref y_many, .ref y_item, .ref y_city, .ref y_fresh, .int m_isThere, .ref y_tape, .int m_taped, .int m_latest, .int m_length, .int m_cursor, .int m_token, .int m_start, .int m_till, .int m_fault, .int m_faultAt, .int m_seen, .int m_mirrors, .ref y_cost, .ref y_away, .ref y_fee, .ref y_goesTo, .ref y_priceWas, .ref y_isKept, .ref y_kept, .ref y_trace, .int m_traced])), (y_city, .inl (cI, 192, .inl cy))]) [1, 0] (by decide) rfl
        have lqm1000013 : Int32.toInt (-1000013) = -1000013 := by decide
        have lq3 : Int32.toInt (3) = 3 := by decide
        exact b_iret S.1 S.2.1 X.2.1 X.2.2.1 hP hD hS ⟨(3), rfl⟩ dX9_as_54
    · have hf_11 : kd.toInt < (0) ∨ (5) < kd.toInt := by simp only [Int32.toInt_toInt64] at hf_11; exact hf_11
      have hP : va_P D vwCl [(y, .inr (9, [.int 0, .int m_status, .ref y_lane, .ref y_many, .ref y_item, .ref y_city, .ref y_fresh, .int m_isThere, .ref y_tape, .int m_taped, .int m_latest, .int m_length, .int m_cursor, .int m_token, .int m_start, .int m_till, .int m_fault, .int m_faultAt, .int m_seen, .int m_mirrors, .ref y_cost, .ref y_away, .ref y_fee, .ref y_goesTo, .ref y_priceWas, .ref y_isKept, .ref y_kept, .ref y_trace, .int m_traced])), (y_city, .inl (cI, 192, .inl cy))] H := hP
      have hD : va_D A [(y, .inr (9, [.int 0, .int m_status, .ref y_lane, .ref y_many, .ref y_item, .ref y_city, .ref y_fresh, .int m_isThere, .ref y_tape, .int m_taped, .int m_latest, .int m_length, .int m_cursor, .int m_token, .int m_start, .int m_till, .int m_fault, .int m_faultAt, .int m_seen, .int m_mirrors, .ref y_cost, .ref y_away, .ref y_fee, .ref y_goesTo, .ref y_priceWas, .ref y_isKept, .ref y_kept, .ref y_trace, .int m_traced])), (y_city, .inl (cI, 192, .inl cy))] := hD
      refine lv_if_ne (tgt := 28) S.1 S.2.1 dX9_as_22 (by decide) (fun c_28 => absurd c_28 (by decide)) (fun c_28 => ?_)
      refine lv_ldc (v := (-1000001)) S.1 S.2.1 S.2.2.2.1 (S.2.2.2.2 (.constant RX9 73 (-1000001)) (by decide +kernel)) dX9_as_25 ?_
      have lqm1000001 : Int32.toInt (-1000001) = -1000001 := by decide
      exact b_iret S.1 S.2.1 X.2.1 X.2.2.1 hP hD hS ⟨m_status, rfl⟩ dX9_as_27
  · have hP : va_P D vwCl [(y, .inr (9, [.int 0, .int m_status, .ref y_lane, .ref y_many, .ref y_item, .ref y_city, .ref y_fresh, .int m_isThere, .ref y_tape, .int m_taped, .int m_latest, .int m_length, .int m_cursor, .int m_token, .int m_start, .int m_till, .int m_fault, .int m_faultAt, .int m_seen, .int m_mirrors, .ref y_cost, .ref y_away, .ref y_fee, .ref y_goesTo, .ref y_priceWas, .ref y_isKept, .ref y_kept, .ref y_trace, .int m_traced])), (y_city, .inl (cI, 192, .inl cy))] H := hP
    have hD : va_D A [(y, .inr (9, [.int 0, .int m_status, .ref y_lane, .ref y_many, .ref y_item, .ref y_city, .ref y_fresh, .int m_isThere, .ref y_tape, .int m_taped, .int m_latest, .int m_length, .int m_cursor, .int m_token, .int m_start, .int m_till, .int m_fault, .int m_faultAt, .int m_seen, .int m_mirrors, .ref y_cost, .ref y_away, .ref y_fee, .ref y_goesTo, .ref y_priceWas, .ref y_isKept, .ref y_kept, .ref y_trace, .int m_traced])), (y_city, .inl (cI, 192, .inl cy))] := hD
    refine lv_if_eq (tgt := 25) S.1 S.2.1 dX9_as_10 (by decide) (fun c_29 => ?_) (fun c_29 => absurd c_29 (by decide))
    refine lv_ldc (v := (-1000001)) S.1 S.2.1 S.2.2.2.1 (S.2.2.2.2 (.constant RX9 73 (-1000001)) (by decide +kernel)) dX9_as_25 ?_
    have lqm1000001 : Int32.toInt (-1000001) = -1000001 := by decide
    exact b_iret S.1 S.2.1 X.2.1 X.2.2.1 hP hD hS ⟨m_status, rfl⟩ dX9_as_27
set_option maxHeartbeats 4000000 in
set_option maxRecDepth 100000 in
theorem s_X9_began (l : Launch) (D : va_G) (cI cZ cC cS : ClassId) (sq : Nat → Nat) (sz : Nat) (y : Nat) (y_trace : Nat) (bo_ : Int32) (m_thrown : Int32) (m_status : Int32) (y_lane : Nat) (y_many : Nat) (y_item : Nat) (y_city : Nat) (y_fresh : Nat) (m_isThere : Int32) (y_tape : Nat) (m_taped : Int32) (m_latest : Int32) (m_length : Int32) (m_cursor : Int32) (m_token : Int32) (m_start : Int32) (m_till : Int32) (m_fault : Int32) (m_faultAt : Int32) (m_seen : Int32) (m_mirrors : Int32) (y_cost : Nat) (y_away : Nat) (y_fee : Nat) (y_goesTo : Nat) (y_priceWas : Nat) (y_isKept : Nat) (y_kept : Nat) (m_traced : Int32) (tr : Nat → Int32) (htd : 0 ≤ m_traced.toInt ∧ m_traced.toInt ≤ 16) : mV l yX9_began wsX9_began 0 0 0 0 D (tyW cI cZ cC cS) sq [(y, .inr (9, [.int m_thrown, .int m_status, .ref y_lane, .ref y_many, .ref y_item, .ref y_city, .ref y_fresh, .int m_isThere, .ref y_tape, .int m_taped, .int m_latest, .int m_length, .int m_cursor, .int m_token, .int m_start, .int m_till, .int m_fault, .int m_faultAt, .int m_seen, .int m_mirrors, .ref y_cost, .ref y_away, .ref y_fee, .ref y_goesTo, .ref y_priceWas, .ref y_isKept, .ref y_kept, .ref y_trace, .int m_traced])), (y_trace, .inl (cI, 16, .inl tr))] sz [.ref y, .int bo_] (fun w => (∃ (m_traced2 : Int32), ∃ (tr2 : Nat → Int32), (0 ≤ m_traced2.toInt ∧ m_traced2.toInt ≤ 16) ∧ w = [(y, .inr (9, [.int m_thrown, .int m_status, .ref y_lane, .ref y_many, .ref y_item, .ref y_city, .ref y_fresh, .int m_isThere, .ref y_tape, .int m_taped, .int m_latest, .int m_length, .int m_cursor, .int m_token, .int m_start, .int m_till, .int m_fault, .int m_faultAt, .int m_seen, .int m_mirrors, .ref y_cost, .ref y_away, .ref y_fee, .ref y_goesTo, .ref y_priceWas, .ref y_isKept, .ref y_kept, .ref y_trace, .int m_traced2])), (y_trace, .inl (cI, 16, .inl tr2))])) := by
  refine b_metV (cc := cX9_began) (maxL := 2) (ret := none) (by decide) rfl (Nat.le_of_ble_eq_true rfl) ?_
  intro p e s m below meth c ls A H X hsz hP hK hT hD hA hS hl
  have S : CallFix p m c cX9_began 2 s ([.ref y, .int bo_] : List Value).toArray wsX9_began RX9 := X.1
  have hl : lv_has ls 2 [(0, .ref y), (1, .int bo_)] := hl
  have iX9 := jX9_began_X9
  refine lv_aload_n S.1 S.2.1 dX9_began_0 rfl (lv_at hl 0 rfl) ?_
  refine b_get (v := .int m_traced) S iX9 hK hP 0 rfl rfl 28 (by decide) (by decide +kernel) rfl dX9_began_1 ?_
  refine lv_bipush (v := (16)) S.1 S.2.1 dX9_began_4 (by decide) ?_
  refine lv_icmp_ge (tgt := 29) S.1 S.2.1 dX9_began_6 (by decide) (fun c_1 => ?_) (fun c_1 => ?_)
  · rw [le2 (a := 16) (b := m_traced) (A := 16) (B := m_traced.toInt) rfl rfl] at c_1
    exact b_vret S.1 S.2.1 X.2.1 X.2.2.1 hP hD hS ⟨m_traced, tr, (by first | assumption | omega | decide | (rw [show Int32.toInt 0 = 0 from rfl]; omega)), rfl⟩ dX9_began_29
  · rw [le2 (a := 16) (b := m_traced) (A := 16) (B := m_traced.toInt) rfl rfl] at c_1
    refine lv_aload_n S.1 S.2.1 dX9_began_9 rfl (lv_at hl 0 rfl) ?_
    refine b_get (v := .ref y_trace) S iX9 hK hP 0 rfl rfl 27 (by decide) (by decide +kernel) rfl dX9_began_10 ?_
    refine lv_aload_n S.1 S.2.1 dX9_began_13 rfl (lv_at hl 0 rfl) ?_
    refine b_get (v := .int m_traced) S iX9 hK hP 0 rfl rfl 28 (by decide) (by decide +kernel) rfl dX9_began_14 ?_
    refine lv_iload_n S.1 S.2.1 dX9_began_17 rfl (lv_at hl 1 rfl) ?_
    refine va_iast S.1 S.2.1 hK.1 hP hD hS 1 0 rfl rfl (in_of (n := 16) (by omega) (by omega)) dX9_began_18 (fun H locs hP hD hS => ?_)
    obtain ⟨f_2, hf_2⟩ : ∃ g, (upd tr m_traced.toNatClampNeg (bo_)) = g := ⟨_, rfl⟩
    have hP : va_P D vwCl [(y, .inr (9, [.int m_thrown, .int m_status, .ref y_lane, .ref y_many, .ref y_item, .ref y_city, .ref y_fresh, .int m_isThere, .ref y_tape, .int m_taped, .int m_latest, .int m_length, .int m_cursor, .int m_token, .int m_start, .int m_till, .int m_fault, .int m_faultAt, .int m_seen, .int m_mirrors, .ref y_cost, .ref y_away, .ref y_fee, .ref y_goesTo, .ref y_priceWas, .ref y_isKept, .ref y_kept, .ref y_trace, .int m_traced])), (y_trace, .inl (cI, 16, .inl (upd tr m_traced.toNatClampNeg (bo_))))] H := hP
    have hD : va_D A [(y, .inr (9, [.int m_thrown, .int m_status, .ref y_lane, .ref y_many, .ref y_item, .ref y_city, .ref y_fresh, .int m_isThere, .ref y_tape, .int m_taped, .int m_latest, .int m_length, .int m_cursor, .int m_token, .int m_start, .int m_till, .int m_fault, .int m_faultAt, .int m_seen, .int m_mirrors, .ref y_cost, .ref y_away, .ref y_fee, .ref y_goesTo, .ref y_priceWas, .ref y_isKept, .ref y_kept, .ref y_trace, .int m_traced])), (y_trace, .inl (cI, 16, .inl (upd tr m_traced.toNatClampNeg (bo_))))] := hD
    rw [hf_2] at hP hD
    refine lv_aload_n S.1 S.2.1 dX9_began_19 rfl (lv_at hl 0 rfl) ?_
    refine lv_dup S.1 S.2.1 dX9_began_20 rfl ?_
    refine b_get (v := .int m_traced) S iX9 hK hP 0 rfl rfl 28 (by decide) (by decide +kernel) rfl dX9_began_21 ?_
    refine lv_iconst (v := (1)) S.1 S.2.1 dX9_began_24 (by decide) ?_
    refine lv_iadd S.1 S.2.1 dX9_began_25 ?_
    refine lv_topi (fun x_3 ex_3 => ?_)
    have tx_3 : x_3.toInt = m_traced.toInt + (1) := addI (A := m_traced.toInt) (B := 1) ex_3 rfl rfl (by omega) (by omega)
    refine b_put (v := .int x_3) S iX9 tyX9 tyX9_ok nmX9 hK hP hD hS 0 rfl rfl 28 (by decide) (by decide +kernel) rfl rfl rfl (Nat.le_of_ble_eq_true rfl) dX9_began_26 (fun H locs hP hD hS => ?_)
    have hP : va_P D vwCl [(y, .inr (9, [.int m_thrown, .int m_status, .ref y_lane, .ref y_many, .ref y_item, .ref y_city, .ref y_fresh, .int m_isThere, .ref y_tape, .int m_taped, .int m_latest, .int m_length, .int m_cursor, .int m_token, .int m_start, .int m_till, .int m_fault, .int m_faultAt, .int m_seen, .int m_mirrors, .ref y_cost, .ref y_away, .ref y_fee, .ref y_goesTo, .ref y_priceWas, .ref y_isKept, .ref y_kept, .ref y_trace, .int x_3])), (y_trace, .inl (cI, 16, .inl f_2))] H := hP
    have hD : va_D A [(y, .inr (9, [.int m_thrown, .int m_status, .ref y_lane, .ref y_many, .ref y_item, .ref y_city, .ref y_fresh, .int m_isThere, .ref y_tape, .int m_taped, .int m_latest, .int m_length, .int m_cursor, .int m_token, .int m_start, .int m_till, .int m_fault, .int m_faultAt, .int m_seen, .int m_mirrors, .ref y_cost, .ref y_away, .ref y_fee, .ref y_goesTo, .ref y_priceWas, .ref y_isKept, .ref y_kept, .ref y_trace, .int x_3])), (y_trace, .inl (cI, 16, .inl f_2))] := hD
    exact b_vret S.1 S.2.1 X.2.1 X.2.2.1 hP hD hS ⟨x_3, f_2, (by first | assumption | omega | decide | (rw [show Int32.toInt 0 = 0 from rfl]; omega)), rfl⟩ dX9_began_29
set_option maxHeartbeats 4000000 in
set_option maxRecDepth 100000 in
theorem lp_mplain {p : Program} (l : Launch) {e : Env} {s : State} {m : MethodId} {below : List Frame} {meth : Method} {c : Code} (D : va_G) (cI cZ cC cS : ClassId) (sq : Nat → Nat) (y : Nat) (y_trace : Nat) (y_city : Nat) (k : Int32) (m_thrown : Int32) (m_status : Int32) (y_lane : Nat) (y_many : Nat) (y_item : Nat) (y_fresh : Nat) (m_isThere : Int32) (y_tape : Nat) (m_taped : Int32) (m_latest : Int32) (m_length : Int32) (m_cursor : Int32) (m_token : Int32) (m_start : Int32) (m_till : Int32) (m_fault : Int32) (m_faultAt : Int32) (m_seen : Int32) (m_mirrors : Int32) (y_cost : Nat) (y_away : Nat) (y_fee : Nat) (y_goesTo : Nat) (y_priceWas : Nat) (y_isKept : Nat) (y_kept : Nat) (m_traced : Int32) (tr : Nat → Int32) (cy : Nat → Int32) (hpd_cy : prd cyK 192 cy) (hk : 0 ≤ k.toInt ∧ k.toInt < 80) (htd : 0 ≤ m_traced.toInt ∧ m_traced.toInt ≤ 16) (td1 : Int32) (tr1 : Nat → Int32) (htd1 : 0 ≤ td1.toInt ∧ td1.toInt ≤ 16) {A : Nat → Prop} (X : bX p s m meth c cX9_plainSize 5 wsX9_plainSize yX9_plainSize (some .int) [.ref y, .int k]) (hK : kW D (tyW cI cZ cC cS) sq s) (hT : sT sq A s s.heap) (hA : ∀ q, s.heap.size ≤ q → A q) (K : ∀ (i : Int32) (q : Int32), (prd cyK 192 cy) → (0 ≤ i.toInt ∧ i.toInt ≤ 8) → ∀ (H : Heap) (locs : List Loc) (ls : Array Slot), va_P D vwCl [(y, .inr (9, [.int m_thrown, .int m_status, .ref y_lane, .ref y_many, .ref y_item, .ref y_city, .ref y_fresh, .int m_isThere, .ref y_tape, .int m_taped, .int m_latest, .int m_length, .int m_cursor, .int m_token, .int m_start, .int m_till, .int m_fault, .int m_faultAt, .int m_seen, .int m_mirrors, .ref y_cost, .ref y_away, .ref y_fee, .ref y_goesTo, .ref y_priceWas, .ref y_isKept, .ref y_kept, .ref y_trace, .int td1])), (y_trace, .inl (cI, 16, .inl tr1)), (y_city, .inl (cI, 192, .inl cy))] H → va_D A [(y, .inr (9, [.int m_thrown, .int m_status, .ref y_lane, .ref y_many, .ref y_item, .ref y_city, .ref y_fresh, .int m_isThere, .ref y_tape, .int m_taped, .int m_latest, .int m_length, .int m_cursor, .int m_token, .int m_start, .int m_till, .int m_fault, .int m_faultAt, .int m_seen, .int m_mirrors, .ref y_cost, .ref y_away, .ref y_fee, .ref y_goesTo, .ref y_priceWas, .ref y_isKept, .ref y_kept, .ref y_trace, .int td1])), (y_trace, .inl (cI, 16, .inl tr1)), (y_city, .inl (cI, 192, .inl cy))] → va_S A s.heap H locs → lv_has ls 5 [(3, .int i), (2, .int q), (0, .ref y), (1, .int k)] → W p l e (rmW 3 120 0 0) s m ([.ref y, .int k] : List Value).toArray below meth c H locs 0 0 (MQ below (va_Qi (fun r w => (∃ (m_traced2 : Int32), ∃ (tr2 : Nat → Int32), (0 ≤ m_traced2.toInt ∧ m_traced2.toInt ≤ 16) ∧ w = [(y, .inr (9, [.int m_thrown, .int m_status, .ref y_lane, .ref y_many, .ref y_item, .ref y_city, .ref y_fresh, .int m_isThere, .ref y_tape, .int m_taped, .int m_latest, .int m_length, .int m_cursor, .int m_token, .int m_start, .int m_till, .int m_fault, .int m_faultAt, .int m_seen, .int m_mirrors, .ref y_cost, .ref y_away, .ref y_fee, .ref y_goesTo, .ref y_priceWas, .ref y_isKept, .ref y_kept, .ref y_trace, .int m_traced2])), (y_trace, .inl (cI, 16, .inl tr2)), (y_city, .inl (cI, 192, .inl cy))])) (wD D A) A) ([.ref y, .int k] : List Value).toArray s 0 0 A) (F0 m 57 ls [])) : ∀ (mN : Nat) (i : Int32) (q : Int32), (prd cyK 192 cy) → (0 ≤ i.toInt ∧ i.toInt ≤ 8) → ((8 - i.toInt).toNat < mN) → ∀ (H : Heap) (locs : List Loc) (ls : Array Slot), va_P D vwCl [(y, .inr (9, [.int m_thrown, .int m_status, .ref y_lane, .ref y_many, .ref y_item, .ref y_city, .ref y_fresh, .int m_isThere, .ref y_tape, .int m_taped, .int m_latest, .int m_length, .int m_cursor, .int m_token, .int m_start, .int m_till, .int m_fault, .int m_faultAt, .int m_seen, .int m_mirrors, .ref y_cost, .ref y_away, .ref y_fee, .ref y_goesTo, .ref y_priceWas, .ref y_isKept, .ref y_kept, .ref y_trace, .int td1])), (y_trace, .inl (cI, 16, .inl tr1)), (y_city, .inl (cI, 192, .inl cy))] H → va_D A [(y, .inr (9, [.int m_thrown, .int m_status, .ref y_lane, .ref y_many, .ref y_item, .ref y_city, .ref y_fresh, .int m_isThere, .ref y_tape, .int m_taped, .int m_latest, .int m_length, .int m_cursor, .int m_token, .int m_start, .int m_till, .int m_fault, .int m_faultAt, .int m_seen, .int m_mirrors, .ref y_cost, .ref y_away, .ref y_fee, .ref y_goesTo, .ref y_priceWas, .ref y_isKept, .ref y_kept, .ref y_trace, .int td1])), (y_trace, .inl (cI, 16, .inl tr1)), (y_city, .inl (cI, 192, .inl cy))] → va_S A s.heap H locs → lv_has ls 5 [(3, .int i), (2, .int q), (0, .ref y), (1, .int k)] → W p l e (rmW 3 120 0 0) s m ([.ref y, .int k] : List Value).toArray below meth c H locs 0 0 (MQ below (va_Qi (fun r w => (∃ (m_traced2 : Int32), ∃ (tr2 : Nat → Int32), (0 ≤ m_traced2.toInt ∧ m_traced2.toInt ≤ 16) ∧ w = [(y, .inr (9, [.int m_thrown, .int m_status, .ref y_lane, .ref y_many, .ref y_item, .ref y_city, .ref y_fresh, .int m_isThere, .ref y_tape, .int m_taped, .int m_latest, .int m_length, .int m_cursor, .int m_token, .int m_start, .int m_till, .int m_fault, .int m_faultAt, .int m_seen, .int m_mirrors, .ref y_cost, .ref y_away, .ref y_fee, .ref y_goesTo, .ref y_priceWas, .ref y_isKept, .ref y_kept, .ref y_trace, .int m_traced2])), (y_trace, .inl (cI, 16, .inl tr2)), (y_city, .inl (cI, 192, .inl cy))])) (wD D A) A) ([.ref y, .int k] : List Value).toArray s 0 0 A) (F0 m 10 ls []) := by
  have S : CallFix p m c cX9_plainSize 5 s ([.ref y, .int k] : List Value).toArray wsX9_plainSize RX9 := X.1
  have iX9 := jX9_plainSize_X9
  intro mN
  induction mN with
  | zero => intro i q hpd_cy hi hm; exact absurd hm (Nat.not_lt_zero _)
  | succ mN ih =>
    intro i q hpd_cy hi hm H locs ls hP hD hS hl
    refine lv_iload_n S.1 S.2.1 dX9_plainSize_10 rfl (lv_at hl 0 rfl) ?_
    refine lv_bipush (v := (8)) S.1 S.2.1 dX9_plainSize_11 (by decide) ?_
    refine lv_icmp_ge (tgt := 57) S.1 S.2.1 dX9_plainSize_13 (by decide) (fun c_101 => ?_) (fun c_101 => ?_)
    · rw [le2 (a := 8) (b := i) (A := 8) (B := i.toInt) rfl rfl] at c_101
      exact K i q (by first | assumption | omega | decide | (rw [show Int32.toInt 0 = 0 from rfl]; omega)) (by first | assumption | omega | decide | (rw [show Int32.toInt 0 = 0 from rfl]; omega)) H _ ls hP hD hS (lv_sub hl [0, 1, 2, 3] rfl)
    · rw [le2 (a := 8) (b := i) (A := 8) (B := i.toInt) rfl rfl] at c_101
      refine lv_aload_n S.1 S.2.1 dX9_plainSize_16 rfl (lv_at hl 2 rfl) ?_
      refine lv_iload_n S.1 S.2.1 dX9_plainSize_17 rfl (lv_at hl 3 rfl) ?_
      refine lv_iload_n S.1 S.2.1 dX9_plainSize_18 rfl (lv_at hl 0 rfl) ?_
      refine b_ai (wr := [(y_trace, .inl (cI, 16, .inl tr1))]) (b_runV (q0 := 0) (ci := 9) (As := [.int k, .int i]) (s_X9_nextTo l D cI cZ cC cS sq H.size y y_city k i m_thrown m_status y_lane y_many y_item y_fresh m_isThere y_tape m_taped m_latest m_length m_cursor m_token m_start m_till m_fault m_faultAt m_seen m_mirrors y_cost y_away y_fee y_goesTo y_priceWas y_isKept y_kept y_trace td1 cy (by first | assumption | omega | decide | (rw [show Int32.toInt 0 = 0 from rfl]; omega)) (by first | assumption | omega | decide | (rw [show Int32.toInt 0 = 0 from rfl]; omega)) (by first | assumption | omega | decide | (rw [show Int32.toInt 0 = 0 from rfl]; omega))) S gX9_plainSize_X9_nextTo rfl hdV_X9_nextTo ⟨Nat.le_of_ble_eq_true rfl, Nat.le_of_ble_eq_true rfl⟩ ⟨Nat.le_of_ble_eq_true rfl, Nat.le_of_ble_eq_true rfl⟩ hK hT hS hA hP hD rfl rfl [0, 2] rfl (by decide) rfl hl.1 rfl (Nat.le_of_ble_eq_true rfl) dX9_plainSize_19) hP hD hS hA [0, 2] [1] rfl rfl (by decide) (by decide) (fun r_102 w_103 H locs hw_104 hP hD hS => ?_)
      rcases hw_104 with ⟨hf_105, rfl⟩ | ⟨rfl, rfl⟩
      · have hP : va_P D vwCl [(y_trace, .inl (cI, 16, .inl tr1)), (y, .inr (9, [.int m_thrown, .int m_status, .ref y_lane, .ref y_many, .ref y_item, .ref y_city, .ref y_fresh, .int m_isThere, .ref y_tape, .int m_taped, .int m_latest, .int m_length, .int m_cursor, .int m_token, .int m_start, .int m_till, .int m_fault, .int m_faultAt, .int m_seen, .int m_mirrors, .ref y_cost, .ref y_away, .ref y_fee, .ref y_goesTo, .ref y_priceWas, .ref y_isKept, .ref y_kept, .ref y_trace, .int td1])), (y_city, .inl (cI, 192, .inl cy))] H := hP
        have hD : va_D A [(y_trace, .inl (cI, 16, .inl tr1)), (y, .inr (9, [.int m_thrown, .int m_status, .ref y_lane, .ref y_many, .ref y_item, .ref y_city, .ref y_fresh, .int m_isThere, .ref y_tape, .int m_taped, .int m_latest, .int m_length, .int m_cursor, .int m_token, .int m_start, .int m_till, .int m_fault, .int m_faultAt, .int m_seen, .int m_mirrors, .ref y_cost, .ref y_away, .ref y_fee, .ref y_goesTo, .ref y_priceWas, .ref y_isKept, .ref y_kept, .ref y_trace, .int td1])), (y_city, .inl (cI, 192, .inl cy))] := hD
        refine lv_istore (lv' := [(4, .int r_102), (3, .int i), (2, .int q), (0, .ref y), (1, .int k)]) S.1 S.2.1 dX9_plainSize_22 hl (by decide) rfl (fun ls hl => ?_)
        refine lv_iload_n S.1 S.2.1 dX9_plainSize_24 rfl (lv_at hl 2 rfl) ?_
        refine lv_iload S.1 S.2.1 dX9_plainSize_25 (lv_at hl 0 rfl) ?_
        refine lv_if_lt (tgt := 48) S.1 S.2.1 dX9_plainSize_27 (by decide) (fun c_106 => ?_) (fun c_106 => ?_)
        · rw [lt2 (a := r_102) (b := 0) (A := r_102.toInt) (B := 0) rfl rfl] at c_106
          refine lv_iconst (v := (0)) S.1 S.2.1 dX9_plainSize_48 (by decide) ?_
          refine lv_iadd S.1 S.2.1 dX9_plainSize_49 ?_
          refine lv_topi (fun x_107 ex_107 => ?_)
          refine lv_istore_n (lv' := [(2, .int x_107), (4, .int r_102), (3, .int i), (0, .ref y), (1, .int k)]) S.1 S.2.1 dX9_plainSize_50 rfl hl (by decide) rfl (fun ls hl => ?_)
          obtain ⟨x_108, ex_108⟩ : ∃ y : Int32, y = i + Int32.ofInt (1) := ⟨_, rfl⟩
          refine lv_iinc (v := x_108) (lv' := [(3, .int x_108), (2, .int x_107), (4, .int r_102), (0, .ref y), (1, .int k)]) S.1 S.2.1 dX9_plainSize_51 hl (k := 2) rfl ex_108.symm (by decide) rfl (fun ls hl => ?_)
          have tx_108 : x_108.toInt = i.toInt + (1) := addI (A := i.toInt) (B := 1) ex_108 rfl rfl (by omega) (by omega)
          refine lv_goto (tgt := 10) S.1 S.2.1 dX9_plainSize_54 (by decide) ?_
          have hP := hP.sub (ws' := [(y, .inr (9, [.int m_thrown, .int m_status, .ref y_lane, .ref y_many, .ref y_item, .ref y_city, .ref y_fresh, .int m_isThere, .ref y_tape, .int m_taped, .int m_latest, .int m_length, .int m_cursor, .int m_token, .int m_start, .int m_till, .int m_fault, .int m_faultAt, .int m_seen, .int m_mirrors, .ref y_cost, .ref y_away, .ref y_fee, .ref y_goesTo, .ref y_priceWas, .ref y_isKept, .ref y_kept, .ref y_trace, .int td1])), (y_trace, .inl (cI, 16, .inl tr1)), (y_city, .inl (cI, 192, .inl cy))]) [1, 0, 2] rfl
          have hD := hD.sub (ws' := [(y, .inr (9, [.int m_thrown, .int m_status, .ref y_lane, .ref y_many, .ref y_item, .ref y_city, .ref y_fresh, .int m_isThere, .ref y_tape, .int m_taped, .int m_latest, .int m_length, .int m_cursor, .int m_token, .int m_start, .int m_till, .int m_fault, .int m_faultAt, .int m_seen, .int m_mirrors, .ref y_cost, .ref y_away, .ref y_fee, .ref y_goesTo, .ref y_priceWas, .ref y_isKept, .ref y_kept, .ref y_trace, .int td1])), (y_trace, .inl (cI, 16, .inl tr1)), (y_city, .inl (cI, 192, .inl cy))]) [1, 0, 2] (by decide) rfl
          exact ih x_108 x_107 (by first | assumption | omega | decide | (rw [show Int32.toInt 0 = 0 from rfl]; omega)) (by first | assumption | omega | decide | (rw [show Int32.toInt 0 = 0 from rfl]; omega)) (by omega) H _ ls hP hD hS (lv_sub hl [0, 1, 3, 4] rfl)
        · rw [lt2 (a := r_102) (b := 0) (A := r_102.toInt) (B := 0) rfl rfl] at c_106
          refine lv_aload_n S.1 S.2.1 dX9_plainSize_30 rfl (lv_at hl 3 rfl) ?_
          refine b_get (v := .ref y_city) S iX9 hK hP 1 rfl rfl 5 (by decide) (by decide +kernel) rfl dX9_plainSize_31 ?_
          refine lv_iconst (v := (4)) S.1 S.2.1 dX9_plainSize_34 (by decide) ?_
          refine lv_iload S.1 S.2.1 dX9_plainSize_35 (lv_at hl 0 rfl) ?_
          refine lv_iadd S.1 S.2.1 dX9_plainSize_37 ?_
          refine lv_topi (fun x_109 ex_109 => ?_)
          have tx_109 : x_109.toInt = 4 + (r_102.toInt) := addI (A := 4) (B := r_102.toInt) ex_109 rfl rfl (by omega) (by omega)
          have hin_110 : vp_in x_109 192 := (in_of (n := 192) (by omega) (by omega))
          refine va_iald S.1 S.2.1 hK.1 hP 2 0 rfl rfl hin_110 dX9_plainSize_38 ?_
          refine lv_topi (fun x_111 ex_111 => ?_)
          have tx_111 := cyg_A (x := x_111) (show prd cyK 192 cy by assumption) (by omega) ex_111
          refine lv_bipush (v := (-3)) S.1 S.2.1 dX9_plainSize_39 (by decide) ?_
          refine lv_icmp_ne (tgt := 48) S.1 S.2.1 dX9_plainSize_41 (by decide) (fun c_112 => ?_) (fun c_112 => ?_)
          · rw [eq2 (a := x_111) (b := (-3)) (A := x_111.toInt) (B := -3) rfl rfl] at c_112
            refine lv_iconst (v := (0)) S.1 S.2.1 dX9_plainSize_48 (by decide) ?_
            refine lv_iadd S.1 S.2.1 dX9_plainSize_49 ?_
            refine lv_topi (fun x_113 ex_113 => ?_)
            refine lv_istore_n (lv' := [(2, .int x_113), (4, .int r_102), (3, .int i), (0, .ref y), (1, .int k)]) S.1 S.2.1 dX9_plainSize_50 rfl hl (by decide) rfl (fun ls hl => ?_)
            obtain ⟨x_114, ex_114⟩ : ∃ y : Int32, y = i + Int32.ofInt (1) := ⟨_, rfl⟩
            refine lv_iinc (v := x_114) (lv' := [(3, .int x_114), (2, .int x_113), (4, .int r_102), (0, .ref y), (1, .int k)]) S.1 S.2.1 dX9_plainSize_51 hl (k := 2) rfl ex_114.symm (by decide) rfl (fun ls hl => ?_)
            have tx_114 : x_114.toInt = i.toInt + (1) := addI (A := i.toInt) (B := 1) ex_114 rfl rfl (by omega) (by omega)
            refine lv_goto (tgt := 10) S.1 S.2.1 dX9_plainSize_54 (by decide) ?_
            have hP := hP.sub (ws' := [(y, .inr (9, [.int m_thrown, .int m_status, .ref y_lane, .ref y_many, .ref y_item, .ref y_city, .ref y_fresh, .int m_isThere, .ref y_tape, .int m_taped, .int m_latest, .int m_length, .int m_cursor, .int m_token, .int m_start, .int m_till, .int m_fault, .int m_faultAt, .int m_seen, .int m_mirrors, .ref y_cost, .ref y_away, .ref y_fee, .ref y_goesTo, .ref y_priceWas, .ref y_isKept, .ref y_kept, .ref y_trace, .int td1])), (y_trace, .inl (cI, 16, .inl tr1)), (y_city, .inl (cI, 192, .inl cy))]) [1, 0, 2] rfl
            have hD := hD.sub (ws' := [(y, .inr (9, [.int m_thrown, .int m_status, .ref y_lane, .ref y_many, .ref y_item, .ref y_city, .ref y_fresh, .int m_isThere, .ref y_tape, .int m_taped, .int m_latest, .int m_length, .int m_cursor, .int m_token, .int m_start, .int m_till, .int m_fault, .int m_faultAt, .int m_seen, .int m_mirrors, .ref y_cost, .ref y_away, .ref y_fee, .ref y_goesTo, .ref y_priceWas, .ref y_isKept, .ref y_kept, .ref y_trace, .int td1])), (y_trace, .inl (cI, 16, .inl tr1)), (y_city, .inl (cI, 192, .inl cy))]) [1, 0, 2] (by decide) rfl
            exact ih x_114 x_113 (by first | assumption | omega | decide | (rw [show Int32.toInt 0 = 0 from rfl]; omega)) (by first | assumption | omega | decide | (rw [show Int32.toInt 0 = 0 from rfl]; omega)) (by omega) H _ ls hP hD hS (lv_sub hl [0, 1, 3, 4] rfl)
          · rw [eq2 (a := x_111) (b := (-3)) (A := x_111.toInt) (B := -3) rfl rfl] at c_112
            refine lv_iconst (v := (1)) S.1 S.2.1 dX9_plainSize_44 (by decide) ?_
            refine lv_goto (tgt := 49) S.1 S.2.1 dX9_plainSize_45 (by decide) ?_
            refine lv_iadd S.1 S.2.1 dX9_plainSize_49 ?_
            refine lv_topi (fun x_115 ex_115 => ?_)
            refine lv_istore_n (lv' := [(2, .int x_115), (4, .int r_102), (3, .int i), (0, .ref y), (1, .int k)]) S.1 S.2.1 dX9_plainSize_50 rfl hl (by decide) rfl (fun ls hl => ?_)
            obtain ⟨x_116, ex_116⟩ : ∃ y : Int32, y = i + Int32.ofInt (1) := ⟨_, rfl⟩
            refine lv_iinc (v := x_116) (lv' := [(3, .int x_116), (2, .int x_115), (4, .int r_102), (0, .ref y), (1, .int k)]) S.1 S.2.1 dX9_plainSize_51 hl (k := 2) rfl ex_116.symm (by decide) rfl (fun ls hl => ?_)
            have tx_116 : x_116.toInt = i.toInt + (1) := addI (A := i.toInt) (B := 1) ex_116 rfl rfl (by omega) (by omega)
            refine lv_goto (tgt := 10) S.1 S.2.1 dX9_plainSize_54 (by decide) ?_
            have hP := hP.sub (ws' := [(y, .inr (9, [.int m_thrown, .int m_status, .ref y_lane, .ref y_many, .ref y_item, .ref y_city, .ref y_fresh, .int m_isThere, .ref y_tape, .int m_taped, .int m_latest, .int m_length, .int m_cursor, .int m_token, .int m_start, .int m_till, .int m_fault, .int m_faultAt, .int m_seen, .int m_mirrors, .ref y_cost, .ref y_away, .ref y_fee, .ref y_goesTo, .ref y_priceWas, .ref y_isKept, .ref y_kept, .ref y_trace, .int td1])), (y_trace, .inl (cI, 16, .inl tr1)), (y_city, .inl (cI, 192, .inl cy))]) [1, 0, 2] rfl
            have hD := hD.sub (ws' := [(y, .inr (9, [.int m_thrown, .int m_status, .ref y_lane, .ref y_many, .ref y_item, .ref y_city, .ref y_fresh, .int m_isThere, .ref y_tape, .int m_taped, .int m_latest, .int m_length, .int m_cursor, .int m_token, .int m_start, .int m_till, .int m_fault, .int m_faultAt, .int m_seen, .int m_mirrors, .ref y_cost, .ref y_away, .ref y_fee, .ref y_goesTo, .ref y_priceWas, .ref y_isKept, .ref y_kept, .ref y_trace, .int td1])), (y_trace, .inl (cI, 16, .inl tr1)), (y_city, .inl (cI, 192, .inl cy))]) [1, 0, 2] (by decide) rfl
            exact ih x_116 x_115 (by first | assumption | omega | decide | (rw [show Int32.toInt 0 = 0 from rfl]; omega)) (by first | assumption | omega | decide | (rw [show Int32.toInt 0 = 0 from rfl]; omega)) (by omega) H _ ls hP hD hS (lv_sub hl [0, 1, 3, 4] rfl)
      · have hP : va_P D vwCl [(y_trace, .inl (cI, 16, .inl tr1)), (y, .inr (9, [.int m_thrown, .int m_status, .ref y_lane, .ref y_many, .ref y_item, .ref y_city, .ref y_fresh, .int m_isThere, .ref y_tape, .int m_taped, .int m_latest, .int m_length, .int m_cursor, .int m_token, .int m_start, .int m_till, .int m_fault, .int m_faultAt, .int m_seen, .int m_mirrors, .ref y_cost, .ref y_away, .ref y_fee, .ref y_goesTo, .ref y_priceWas, .ref y_isKept, .ref y_kept, .ref y_trace, .int td1])), (y_city, .inl (cI, 192, .inl cy))] H := hP
        have hD : va_D A [(y_trace, .inl (cI, 16, .inl tr1)), (y, .inr (9, [.int m_thrown, .int m_status, .ref y_lane, .ref y_many, .ref y_item, .ref y_city, .ref y_fresh, .int m_isThere, .ref y_tape, .int m_taped, .int m_latest, .int m_length, .int m_cursor, .int m_token, .int m_start, .int m_till, .int m_fault, .int m_faultAt, .int m_seen, .int m_mirrors, .ref y_cost, .ref y_away, .ref y_fee, .ref y_goesTo, .ref y_priceWas, .ref y_isKept, .ref y_kept, .ref y_trace, .int td1])), (y_city, .inl (cI, 192, .inl cy))] := hD
        refine lv_istore (lv' := [(4, .int (-1)), (3, .int i), (2, .int q), (0, .ref y), (1, .int k)]) S.1 S.2.1 dX9_plainSize_22 hl (by decide) rfl (fun ls hl => ?_)
        refine lv_iload_n S.1 S.2.1 dX9_plainSize_24 rfl (lv_at hl 2 rfl) ?_
        refine lv_iload S.1 S.2.1 dX9_plainSize_25 (lv_at hl 0 rfl) ?_
        refine lv_if_lt (tgt := 48) S.1 S.2.1 dX9_plainSize_27 (by decide) (fun c_117 => ?_) (fun c_117 => absurd c_117 (by decide))
        refine lv_iconst (v := (0)) S.1 S.2.1 dX9_plainSize_48 (by decide) ?_
        refine lv_iadd S.1 S.2.1 dX9_plainSize_49 ?_
        refine lv_topi (fun x_118 ex_118 => ?_)
        refine lv_istore_n (lv' := [(2, .int x_118), (4, .int (-1)), (3, .int i), (0, .ref y), (1, .int k)]) S.1 S.2.1 dX9_plainSize_50 rfl hl (by decide) rfl (fun ls hl => ?_)
        obtain ⟨x_119, ex_119⟩ : ∃ y : Int32, y = i + Int32.ofInt (1) := ⟨_, rfl⟩
        refine lv_iinc (v := x_119) (lv' := [(3, .int x_119), (2, .int x_118), (4, .int (-1)), (0, .ref y), (1, .int k)]) S.1 S.2.1 dX9_plainSize_51 hl (k := 2) rfl ex_119.symm (by decide) rfl (fun ls hl => ?_)
        have tx_119 : x_119.toInt = i.toInt + (1) := addI (A := i.toInt) (B := 1) ex_119 rfl rfl (by omega) (by omega)
        refine lv_goto (tgt := 10) S.1 S.2.1 dX9_plainSize_54 (by decide) ?_
        have hP := hP.sub (ws' := [(y, .inr (9, [.int m_thrown, .int m_status, .ref y_lane, .ref y_many, .ref y_item, .ref y_city, .ref y_fresh, .int m_isThere, .ref y_tape, .int m_taped, .int m_latest, .int m_length, .int m_cursor, .int m_token, .int m_start, .int m_till, .int m_fault, .int m_faultAt, .int m_seen, .int m_mirrors, .ref y_cost, .ref y_away, .ref y_fee, .ref y_goesTo, .ref y_priceWas, .ref y_isKept, .ref y_kept, .ref y_trace, .int td1])), (y_trace, .inl (cI, 16, .inl tr1)), (y_city, .inl (cI, 192, .inl cy))]) [1, 0, 2] rfl
        have hD := hD.sub (ws' := [(y, .inr (9, [.int m_thrown, .int m_status, .ref y_lane, .ref y_many, .ref y_item, .ref y_city, .ref y_fresh, .int m_isThere, .ref y_tape, .int m_taped, .int m_latest, .int m_length, .int m_cursor, .int m_token, .int m_start, .int m_till, .int m_fault, .int m_faultAt, .int m_seen, .int m_mirrors, .ref y_cost, .ref y_away, .ref y_fee, .ref y_goesTo, .ref y_priceWas, .ref y_isKept, .ref y_kept, .ref y_trace, .int td1])), (y_trace, .inl (cI, 16, .inl tr1)), (y_city, .inl (cI, 192, .inl cy))]) [1, 0, 2] (by decide) rfl
        exact ih x_119 x_118 (by first | assumption | omega | decide | (rw [show Int32.toInt 0 = 0 from rfl]; omega)) (by first | assumption | omega | decide | (rw [show Int32.toInt 0 = 0 from rfl]; omega)) (by omega) H _ ls hP hD hS (lv_sub hl [0, 1, 3, 4] rfl)
set_option maxHeartbeats 4000000 in
set_option maxRecDepth 100000 in
theorem s_X9_plainSize (l : Launch) (D : va_G) (cI cZ cC cS : ClassId) (sq : Nat → Nat) (sz : Nat) (y : Nat) (y_trace : Nat) (y_city : Nat) (k : Int32) (m_thrown : Int32) (m_status : Int32) (y_lane : Nat) (y_many : Nat) (y_item : Nat) (y_fresh : Nat) (m_isThere : Int32) (y_tape : Nat) (m_taped : Int32) (m_latest : Int32) (m_length : Int32) (m_cursor : Int32) (m_token : Int32) (m_start : Int32) (m_till : Int32) (m_fault : Int32) (m_faultAt : Int32) (m_seen : Int32) (m_mirrors : Int32) (y_cost : Nat) (y_away : Nat) (y_fee : Nat) (y_goesTo : Nat) (y_priceWas : Nat) (y_isKept : Nat) (y_kept : Nat) (m_traced : Int32) (tr : Nat → Int32) (cy : Nat → Int32) (hpd_cy : prd cyK 192 cy) (hk : 0 ≤ k.toInt ∧ k.toInt < 80) (htd : 0 ≤ m_traced.toInt ∧ m_traced.toInt ≤ 16) : mI l yX9_plainSize wsX9_plainSize 3 120 D (tyW cI cZ cC cS) sq [(y, .inr (9, [.int m_thrown, .int m_status, .ref y_lane, .ref y_many, .ref y_item, .ref y_city, .ref y_fresh, .int m_isThere, .ref y_tape, .int m_taped, .int m_latest, .int m_length, .int m_cursor, .int m_token, .int m_start, .int m_till, .int m_fault, .int m_faultAt, .int m_seen, .int m_mirrors, .ref y_cost, .ref y_away, .ref y_fee, .ref y_goesTo, .ref y_priceWas, .ref y_isKept, .ref y_kept, .ref y_trace, .int m_traced])), (y_trace, .inl (cI, 16, .inl tr)), (y_city, .inl (cI, 192, .inl cy))] sz [.ref y, .int k] (fun r w => (∃ (m_traced2 : Int32), ∃ (tr2 : Nat → Int32), (0 ≤ m_traced2.toInt ∧ m_traced2.toInt ≤ 16) ∧ w = [(y, .inr (9, [.int m_thrown, .int m_status, .ref y_lane, .ref y_many, .ref y_item, .ref y_city, .ref y_fresh, .int m_isThere, .ref y_tape, .int m_taped, .int m_latest, .int m_length, .int m_cursor, .int m_token, .int m_start, .int m_till, .int m_fault, .int m_faultAt, .int m_seen, .int m_mirrors, .ref y_cost, .ref y_away, .ref y_fee, .ref y_goesTo, .ref y_priceWas, .ref y_isKept, .ref y_kept, .ref y_trace, .int m_traced2])), (y_trace, .inl (cI, 16, .inl tr2)), (y_city, .inl (cI, 192, .inl cy))])) := by
  refine b_metI (cc := cX9_plainSize) (maxL := 5) (ret := (some .int)) (by decide) rfl (Nat.le_of_ble_eq_true rfl) ?_
  intro p e s m below meth c ls A H X hsz hP hK hT hD hA hS hl
  have S : CallFix p m c cX9_plainSize 5 s ([.ref y, .int k] : List Value).toArray wsX9_plainSize RX9 := X.1
  have hl : lv_has ls 5 [(0, .ref y), (1, .int k)] := hl
  refine lv_aload_n S.1 S.2.1 dX9_plainSize_0 rfl (lv_at hl 0 rfl) ?_
  refine lv_bipush (v := (10)) S.1 S.2.1 dX9_plainSize_1 (by decide) ?_
  refine b_av (wr := [(y_city, .inl (cI, 192, .inl cy))]) (b_runV (q0 := 0) (ci := 9) (As := [.int 10]) (s_X9_began l D cI cZ cC cS sq H.size y y_trace (10) m_thrown m_status y_lane y_many y_item y_city y_fresh m_isThere y_tape m_taped m_latest m_length m_cursor m_token m_start m_till m_fault m_faultAt m_seen m_mirrors y_cost y_away y_fee y_goesTo y_priceWas y_isKept y_kept m_traced tr (by first | assumption | omega | decide | (rw [show Int32.toInt 0 = 0 from rfl]; omega))) S gX9_plainSize_X9_began rfl hdV_X9_began ⟨Nat.le_of_ble_eq_true rfl, Nat.le_of_ble_eq_true rfl⟩ ⟨Nat.le_of_ble_eq_true rfl, Nat.le_of_ble_eq_true rfl⟩ hK hT hS hA hP hD rfl rfl [0, 1] rfl (by decide) rfl hl.1 rfl (Nat.le_of_ble_eq_true rfl) dX9_plainSize_3) hP hD hS hA [0, 1] [2] rfl rfl (by decide) (by decide) (fun w_2 H locs hw_3 hP hD hS => ?_)
  obtain ⟨m_traced2_4, tr2_5, hf_6, rfl⟩ := hw_3
  have hP : va_P D vwCl [(y_city, .inl (cI, 192, .inl cy)), (y, .inr (9, [.int m_thrown, .int m_status, .ref y_lane, .ref y_many, .ref y_item, .ref y_city, .ref y_fresh, .int m_isThere, .ref y_tape, .int m_taped, .int m_latest, .int m_length, .int m_cursor, .int m_token, .int m_start, .int m_till, .int m_fault, .int m_faultAt, .int m_seen, .int m_mirrors, .ref y_cost, .ref y_away, .ref y_fee, .ref y_goesTo, .ref y_priceWas, .ref y_isKept, .ref y_kept, .ref y_trace, .int m_traced2_4])), (y_trace, .inl (cI, 16, .inl tr2_5))] H := hP
  have hD : va_D A [(y_city, .inl (cI, 192, .inl cy)), (y, .inr (9, [.int m_thrown, .int m_status, .ref y_lane, .ref y_many, .ref y_item, .ref y_city, .ref y_fresh, .int m_isThere, .ref y_tape, .int m_taped, .int m_latest, .int m_length, .int m_cursor, .int m_token, .int m_start, .int m_till, .int m_fault, .int m_faultAt, .int m_seen, .int m_mirrors, .ref y_cost, .ref y_away, .ref y_fee, .ref y_goesTo, .ref y_priceWas, .ref y_isKept, .ref y_kept, .ref y_trace, .int m_traced2_4])), (y_trace, .inl (cI, 16, .inl tr2_5))] := hD
  refine lv_iconst (v := (0)) S.1 S.2.1 dX9_plainSize_6 (by decide) ?_
  refine lv_istore_n (lv' := [(2, .int 0), (0, .ref y), (1, .int k)]) S.1 S.2.1 dX9_plainSize_7 rfl hl (by decide) rfl (fun ls hl => ?_)
  refine lv_iconst (v := (0)) S.1 S.2.1 dX9_plainSize_8 (by decide) ?_
  refine lv_istore_n (lv' := [(3, .int 0), (2, .int 0), (0, .ref y), (1, .int k)]) S.1 S.2.1 dX9_plainSize_9 rfl hl (by decide) rfl (fun ls hl => ?_)
  have hP := hP.sub (ws' := [(y, .inr (9, [.int m_thrown, .int m_status, .ref y_lane, .ref y_many, .ref y_item, .ref y_city, .ref y_fresh, .int m_isThere, .ref y_tape, .int m_taped, .int m_latest, .int m_length, .int m_cursor, .int m_token, .int m_start, .int m_till, .int m_fault, .int m_faultAt, .int m_seen, .int m_mirrors, .ref y_cost, .ref y_away, .ref y_fee, .ref y_goesTo, .ref y_priceWas, .ref y_isKept, .ref y_kept, .ref y_trace, .int m_traced2_4])), (y_trace, .inl (cI, 16, .inl tr2_5)), (y_city, .inl (cI, 192, .inl cy))]) [1, 2, 0] rfl
  have hD := hD.sub (ws' := [(y, .inr (9, [.int m_thrown, .int m_status, .ref y_lane, .ref y_many, .ref y_item, .ref y_city, .ref y_fresh, .int m_isThere, .ref y_tape, .int m_taped, .int m_latest, .int m_length, .int m_cursor, .int m_token, .int m_start, .int m_till, .int m_fault, .int m_faultAt, .int m_seen, .int m_mirrors, .ref y_cost, .ref y_away, .ref y_fee, .ref y_goesTo, .ref y_priceWas, .ref y_isKept, .ref y_kept, .ref y_trace, .int m_traced2_4])), (y_trace, .inl (cI, 16, .inl tr2_5)), (y_city, .inl (cI, 192, .inl cy))]) [1, 2, 0] (by decide) rfl
  refine lp_mplain l D cI cZ cC cS sq y y_trace y_city k m_thrown m_status y_lane y_many y_item y_fresh m_isThere y_tape m_taped m_latest m_length m_cursor m_token m_start m_till m_fault m_faultAt m_seen m_mirrors y_cost y_away y_fee y_goesTo y_priceWas y_isKept y_kept m_traced tr cy hpd_cy hk htd m_traced2_4 tr2_5 (by first | assumption | omega | decide | (rw [show Int32.toInt 0 = 0 from rfl]; omega)) X hK hT hA (fun i_7 q_8 hi_9 hi_10 H locs ls hP hD hS hl => ?_) _ (0) (0) (by first | assumption | omega | decide | (rw [show Int32.toInt 0 = 0 from rfl]; omega)) (by first | assumption | omega | decide | (rw [show Int32.toInt 0 = 0 from rfl]; omega)) (Nat.lt_succ_self _) H _ ls hP hD hS (lv_sub hl [0, 1, 2, 3] rfl)
  refine lv_iload_n S.1 S.2.1 dX9_plainSize_57 rfl (lv_at hl 1 rfl) ?_
  exact b_iret S.1 S.2.1 X.2.1 X.2.2.1 hP hD hS ⟨m_traced2_4, tr2_5, (by first | assumption | omega | decide | (rw [show Int32.toInt 0 = 0 from rfl]; omega)), rfl⟩ dX9_plainSize_58
set_option maxHeartbeats 4000000 in
set_option maxRecDepth 100000 in
theorem s_X9_wallSize (l : Launch) (D : va_G) (cI cZ cC cS : ClassId) (sq : Nat → Nat) (sz : Nat) (y : Nat) (y_trace : Nat) (y_city : Nat) (k : Int32) (m_thrown : Int32) (m_status : Int32) (y_lane : Nat) (y_many : Nat) (y_item : Nat) (y_fresh : Nat) (m_isThere : Int32) (y_tape : Nat) (m_taped : Int32) (m_latest : Int32) (m_length : Int32) (m_cursor : Int32) (m_token : Int32) (m_start : Int32) (m_till : Int32) (m_fault : Int32) (m_faultAt : Int32) (m_seen : Int32) (m_mirrors : Int32) (y_cost : Nat) (y_away : Nat) (y_fee : Nat) (y_goesTo : Nat) (y_priceWas : Nat) (y_isKept : Nat) (y_kept : Nat) (m_traced : Int32) (tr : Nat → Int32) (cy : Nat → Int32) (hpd_cy : prd cyK 192 cy) (hk : 0 ≤ k.toInt ∧ k.toInt < 80) (htd : 0 ≤ m_traced.toInt ∧ m_traced.toInt ≤ 16) : mI l yX9_wallSize wsX9_wallSize 4 160 D (tyW cI cZ cC cS) sq [(y, .inr (9, [.int m_thrown, .int m_status, .ref y_lane, .ref y_many, .ref y_item, .ref y_city, .ref y_fresh, .int m_isThere, .ref y_tape, .int m_taped, .int m_latest, .int m_length, .int m_cursor, .int m_token, .int m_start, .int m_till, .int m_fault, .int m_faultAt, .int m_seen, .int m_mirrors, .ref y_cost, .ref y_away, .ref y_fee, .ref y_goesTo, .ref y_priceWas, .ref y_isKept, .ref y_kept, .ref y_trace, .int m_traced])), (y_trace, .inl (cI, 16, .inl tr)), (y_city, .inl (cI, 192, .inl cy))] sz [.ref y, .int k] (fun r w => (∃ (m_traced2 : Int32), ∃ (tr2 : Nat → Int32), (0 ≤ m_traced2.toInt ∧ m_traced2.toInt ≤ 16) ∧ w = [(y, .inr (9, [.int m_thrown, .int m_status, .ref y_lane, .ref y_many, .ref y_item, .ref y_city, .ref y_fresh, .int m_isThere, .ref y_tape, .int m_taped, .int m_latest, .int m_length, .int m_cursor, .int m_token, .int m_start, .int m_till, .int m_fault, .int m_faultAt, .int m_seen, .int m_mirrors, .ref y_cost, .ref y_away, .ref y_fee, .ref y_goesTo, .ref y_priceWas, .ref y_isKept, .ref y_kept, .ref y_trace, .int m_traced2])), (y_trace, .inl (cI, 16, .inl tr2)), (y_city, .inl (cI, 192, .inl cy))])) := by
  refine b_metI (cc := cX9_wallSize) (maxL := 2) (ret := (some .int)) (by decide) rfl (Nat.le_of_ble_eq_true rfl) ?_
  intro p e s m below meth c ls A H X hsz hP hK hT hD hA hS hl
  have S : CallFix p m c cX9_wallSize 2 s ([.ref y, .int k] : List Value).toArray wsX9_wallSize RX9 := X.1
  have hl : lv_has ls 2 [(0, .ref y), (1, .int k)] := hl
  refine lv_aload_n S.1 S.2.1 dX9_wallSize_0 rfl (lv_at hl 0 rfl) ?_
  refine lv_bipush (v := (11)) S.1 S.2.1 dX9_wallSize_1 (by decide) ?_
  refine b_av (wr := [(y_city, .inl (cI, 192, .inl cy))]) (b_runV (q0 := 0) (ci := 9) (As := [.int 11]) (s_X9_began l D cI cZ cC cS sq H.size y y_trace (11) m_thrown m_status y_lane y_many y_item y_city y_fresh m_isThere y_tape m_taped m_latest m_length m_cursor m_token m_start m_till m_fault m_faultAt m_seen m_mirrors y_cost y_away y_fee y_goesTo y_priceWas y_isKept y_kept m_traced tr (by first | assumption | omega | decide | (rw [show Int32.toInt 0 = 0 from rfl]; omega))) S gX9_wallSize_X9_began rfl hdV_X9_began ⟨Nat.le_of_ble_eq_true rfl, Nat.le_of_ble_eq_true rfl⟩ ⟨Nat.le_of_ble_eq_true rfl, Nat.le_of_ble_eq_true rfl⟩ hK hT hS hA hP hD rfl rfl [0, 1] rfl (by decide) rfl hl.1 rfl (Nat.le_of_ble_eq_true rfl) dX9_wallSize_3) hP hD hS hA [0, 1] [2] rfl rfl (by decide) (by decide) (fun w_2 H locs hw_3 hP hD hS => ?_)
  obtain ⟨m_traced2_4, tr2_5, hf_6, rfl⟩ := hw_3
  have hP : va_P D vwCl [(y_city, .inl (cI, 192, .inl cy)), (y, .inr (9, [.int m_thrown, .int m_status, .ref y_lane, .ref y_many, .ref y_item, .ref y_city, .ref y_fresh, .int m_isThere, .ref y_tape, .int m_taped, .int m_latest, .int m_length, .int m_cursor, .int m_token, .int m_start, .int m_till, .int m_fault, .int m_faultAt, .int m_seen, .int m_mirrors, .ref y_cost, .ref y_away, .ref y_fee, .ref y_goesTo, .ref y_priceWas, .ref y_isKept, .ref y_kept, .ref y_trace, .int m_traced2_4])), (y_trace, .inl (cI, 16, .inl tr2_5))] H := hP
  have hD : va_D A [(y_city, .inl (cI, 192, .inl cy)), (y, .inr (9, [.int m_thrown, .int m_status, .ref y_lane, .ref y_many, .ref y_item, .ref y_city, .ref y_fresh, .int m_isThere, .ref y_tape, .int m_taped, .int m_latest, .int m_length, .int m_cursor, .int m_token, .int m_start, .int m_till, .int m_fault, .int m_faultAt, .int m_seen, .int m_mirrors, .ref y_cost, .ref y_away, .ref y_fee, .ref y_goesTo, .ref y_priceWas, .ref y_isKept, .ref y_kept, .ref y_trace, .int m_traced2_4])), (y_trace, .inl (cI, 16, .inl tr2_5))] := hD
  refine lv_aload_n S.1 S.2.1 dX9_wallSize_6 rfl (lv_at hl 0 rfl) ?_
  refine lv_iload_n S.1 S.2.1 dX9_wallSize_7 rfl (lv_at hl 1 rfl) ?_
  refine b_ai (wr := []) (b_runV (q0 := 1) (ci := 9) (As := [.int k]) (s_X9_plainSize l D cI cZ cC cS sq H.size y y_trace y_city k m_thrown m_status y_lane y_many y_item y_fresh m_isThere y_tape m_taped m_latest m_length m_cursor m_token m_start m_till m_fault m_faultAt m_seen m_mirrors y_cost y_away y_fee y_goesTo y_priceWas y_isKept y_kept m_traced2_4 tr2_5 cy (by first | assumption | omega | decide | (rw [show Int32.toInt 0 = 0 from rfl]; omega)) (by first | assumption | omega | decide | (rw [show Int32.toInt 0 = 0 from rfl]; omega)) (by first | assumption | omega | decide | (rw [show Int32.toInt 0 = 0 from rfl]; omega))) S gX9_wallSize_X9_plainSize rfl hdV_X9_plainSize ⟨Nat.le_of_ble_eq_true rfl, Nat.le_of_ble_eq_true rfl⟩ ⟨Nat.le_of_ble_eq_true rfl, Nat.le_of_ble_eq_true rfl⟩ hK hT hS hA hP hD rfl rfl [1, 2, 0] rfl (by decide) rfl hl.1 rfl (Nat.le_of_ble_eq_true rfl) dX9_wallSize_8) hP hD hS hA [1, 2, 0] [] rfl rfl (by decide) (by decide) (fun r_7 w_8 H locs hw_9 hP hD hS => ?_)
  obtain ⟨m_traced2_10, tr2_11, hf_12, rfl⟩ := hw_9
  have hP : va_P D vwCl [(y, .inr (9, [.int m_thrown, .int m_status, .ref y_lane, .ref y_many, .ref y_item, .ref y_city, .ref y_fresh, .int m_isThere, .ref y_tape, .int m_taped, .int m_latest, .int m_length, .int m_cursor, .int m_token, .int m_start, .int m_till, .int m_fault, .int m_faultAt, .int m_seen, .int m_mirrors, .ref y_cost, .ref y_away, .ref y_fee, .ref y_goesTo, .ref y_priceWas, .ref y_isKept, .ref y_kept, .ref y_trace, .int m_traced2_10])), (y_trace, .inl (cI, 16, .inl tr2_11)), (y_city, .inl (cI, 192, .inl cy))] H := hP
  have hD : va_D A [(y, .inr (9, [.int m_thrown, .int m_status, .ref y_lane, .ref y_many, .ref y_item, .ref y_city, .ref y_fresh, .int m_isThere, .ref y_tape, .int m_taped, .int m_latest, .int m_length, .int m_cursor, .int m_token, .int m_start, .int m_till, .int m_fault, .int m_faultAt, .int m_seen, .int m_mirrors, .ref y_cost, .ref y_away, .ref y_fee, .ref y_goesTo, .ref y_priceWas, .ref y_isKept, .ref y_kept, .ref y_trace, .int m_traced2_10])), (y_trace, .inl (cI, 16, .inl tr2_11)), (y_city, .inl (cI, 192, .inl cy))] := hD
  refine lv_ineg S.1 S.2.1 dX9_wallSize_11 ?_
  refine lv_topi (fun x_13 ex_13 => ?_)
  exact b_iret S.1 S.2.1 X.2.1 X.2.2.1 hP hD hS ⟨m_traced2_10, tr2_11, (by first | assumption | omega | decide | (rw [show Int32.toInt 0 = 0 from rfl]; omega)), rfl⟩ dX9_wallSize_12
set_option maxHeartbeats 4000000 in
set_option maxRecDepth 100000 in
theorem s_X9_markOf (l : Launch) (D : va_G) (cI cZ cC cS : ClassId) (sq : Nat → Nat) (sz : Nat) (y : Nat) (y_trace : Nat) (y_city : Nat) (k : Int32) (kd : Int32) (m_thrown : Int32) (m_status : Int32) (y_lane : Nat) (y_many : Nat) (y_item : Nat) (y_fresh : Nat) (m_isThere : Int32) (y_tape : Nat) (m_taped : Int32) (m_latest : Int32) (m_length : Int32) (m_cursor : Int32) (m_token : Int32) (m_start : Int32) (m_till : Int32) (m_fault : Int32) (m_faultAt : Int32) (m_seen : Int32) (m_mirrors : Int32) (y_cost : Nat) (y_away : Nat) (y_fee : Nat) (y_goesTo : Nat) (y_priceWas : Nat) (y_isKept : Nat) (y_kept : Nat) (m_traced : Int32) (tr : Nat → Int32) (cy : Nat → Int32) (hpd_cy : prd cyK 192 cy) (hk : 0 ≤ k.toInt ∧ k.toInt < 80) (htd : 0 ≤ m_traced.toInt ∧ m_traced.toInt ≤ 16) (hkd : (kd.toInt = 3 ∨ kd.toInt = 5) → 0 ≤ (cy (4 + k.toInt.toNat)).toInt) : mI l yX9_markOf wsX9_markOf 5 200 D (tyW cI cZ cC cS) sq [(y, .inr (9, [.int m_thrown, .int m_status, .ref y_lane, .ref y_many, .ref y_item, .ref y_city, .ref y_fresh, .int m_isThere, .ref y_tape, .int m_taped, .int m_latest, .int m_length, .int m_cursor, .int m_token, .int m_start, .int m_till, .int m_fault, .int m_faultAt, .int m_seen, .int m_mirrors, .ref y_cost, .ref y_away, .ref y_fee, .ref y_goesTo, .ref y_priceWas, .ref y_isKept, .ref y_kept, .ref y_trace, .int m_traced])), (y_trace, .inl (cI, 16, .inl tr)), (y_city, .inl (cI, 192, .inl cy))] sz [.ref y, .int k, .int kd] (fun r w => (∃ (m_traced2 : Int32), ∃ (tr2 : Nat → Int32), (0 ≤ m_traced2.toInt ∧ m_traced2.toInt ≤ 16) ∧ w = [(y, .inr (9, [.int m_thrown, .int m_status, .ref y_lane, .ref y_many, .ref y_item, .ref y_city, .ref y_fresh, .int m_isThere, .ref y_tape, .int m_taped, .int m_latest, .int m_length, .int m_cursor, .int m_token, .int m_start, .int m_till, .int m_fault, .int m_faultAt, .int m_seen, .int m_mirrors, .ref y_cost, .ref y_away, .ref y_fee, .ref y_goesTo, .ref y_priceWas, .ref y_isKept, .ref y_kept, .ref y_trace, .int m_traced2])), (y_trace, .inl (cI, 16, .inl tr2)), (y_city, .inl (cI, 192, .inl cy))])) := by
  refine b_metI (cc := cX9_markOf) (maxL := 4) (ret := (some .int)) (by decide) rfl (Nat.le_of_ble_eq_true rfl) ?_
  intro p e s m below meth c ls A H X hsz hP hK hT hD hA hS hl
  have S : CallFix p m c cX9_markOf 4 s ([.ref y, .int k, .int kd] : List Value).toArray wsX9_markOf RX9 := X.1
  have hl : lv_has ls 4 [(0, .ref y), (1, .int k), (2, .int kd)] := hl
  have iX9 := jX9_markOf_X9
  refine lv_iload_n S.1 S.2.1 dX9_markOf_0 rfl (lv_at hl 2 rfl) ?_
  refine lv_iconst (v := (5)) S.1 S.2.1 dX9_markOf_1 (by decide) ?_
  refine lv_icmp_eq (tgt := 10) S.1 S.2.1 dX9_markOf_2 (by decide) (fun c_1 => ?_) (fun c_1 => ?_)
  · rw [eq2 (a := kd) (b := 5) (A := kd.toInt) (B := 5) rfl rfl] at c_1
    refine lv_aload_n S.1 S.2.1 dX9_markOf_10 rfl (lv_at hl 0 rfl) ?_
    refine lv_iload_n S.1 S.2.1 dX9_markOf_11 rfl (lv_at hl 2 rfl) ?_
    refine lv_iconst (v := (5)) S.1 S.2.1 dX9_markOf_12 (by decide) ?_
    refine lv_icmp_ne (tgt := 21) S.1 S.2.1 dX9_markOf_13 (by decide) (fun c_2 => ?_) (fun c_2 => ?_)
    · rw [eq2 (a := kd) (b := 5) (A := kd.toInt) (B := 5) rfl rfl] at c_2
      refine lv_bipush (v := (22)) S.1 S.2.1 dX9_markOf_21 (by decide) ?_
      refine b_av (wr := [(y_city, .inl (cI, 192, .inl cy))]) (b_runV (q0 := 0) (ci := 9) (As := [.int 22]) (s_X9_began l D cI cZ cC cS sq H.size y y_trace (22) m_thrown m_status y_lane y_many y_item y_city y_fresh m_isThere y_tape m_taped m_latest m_length m_cursor m_token m_start m_till m_fault m_faultAt m_seen m_mirrors y_cost y_away y_fee y_goesTo y_priceWas y_isKept y_kept m_traced tr (by first | assumption | omega | decide | (rw [show Int32.toInt 0 = 0 from rfl]; omega))) S gX9_markOf_X9_began rfl hdV_X9_began ⟨Nat.le_of_ble_eq_true rfl, Nat.le_of_ble_eq_true rfl⟩ ⟨Nat.le_of_ble_eq_true rfl, Nat.le_of_ble_eq_true rfl⟩ hK hT hS hA hP hD rfl rfl [0, 1] rfl (by decide) rfl hl.1 rfl (Nat.le_of_ble_eq_true rfl) dX9_markOf_23) hP hD hS hA [0, 1] [2] rfl rfl (by decide) (by decide) (fun w_4 H locs hw_5 hP hD hS => ?_)
      obtain ⟨m_traced2_6, tr2_7, hf_8, rfl⟩ := hw_5
      have hP : va_P D vwCl [(y_city, .inl (cI, 192, .inl cy)), (y, .inr (9, [.int m_thrown, .int m_status, .ref y_lane, .ref y_many, .ref y_item, .ref y_city, .ref y_fresh, .int m_isThere, .ref y_tape, .int m_taped, .int m_latest, .int m_length, .int m_cursor, .int m_token, .int m_start, .int m_till, .int m_fault, .int m_faultAt, .int m_seen, .int m_mirrors, .ref y_cost, .ref y_away, .ref y_fee, .ref y_goesTo, .ref y_priceWas, .ref y_isKept, .ref y_kept, .ref y_trace, .int m_traced2_6])), (y_trace, .inl (cI, 16, .inl tr2_7))] H := hP
      have hD : va_D A [(y_city, .inl (cI, 192, .inl cy)), (y, .inr (9, [.int m_thrown, .int m_status, .ref y_lane, .ref y_many, .ref y_item, .ref y_city, .ref y_fresh, .int m_isThere, .ref y_tape, .int m_taped, .int m_latest, .int m_length, .int m_cursor, .int m_token, .int m_start, .int m_till, .int m_fault, .int m_faultAt, .int m_seen, .int m_mirrors, .ref y_cost, .ref y_away, .ref y_fee, .ref y_goesTo, .ref y_priceWas, .ref y_isKept, .ref y_kept, .ref y_trace, .int m_traced2_6])), (y_trace, .inl (cI, 16, .inl tr2_7))] := hD
      refine lv_iload_n S.1 S.2.1 dX9_markOf_26 rfl (lv_at hl 2 rfl) ?_
      refine lv_iconst (v := (3)) S.1 S.2.1 dX9_markOf_27 (by decide) ?_
      refine b_ai (wr := [(y_city, .inl (cI, 192, .inl cy)), (y, .inr (9, [.int m_thrown, .int m_status, .ref y_lane, .ref y_many, .ref y_item, .ref y_city, .ref y_fresh, .int m_isThere, .ref y_tape, .int m_taped, .int m_latest, .int m_length, .int m_cursor, .int m_token, .int m_start, .int m_till, .int m_fault, .int m_faultAt, .int m_seen, .int m_mirrors, .ref y_cost, .ref y_away, .ref y_fee, .ref y_goesTo, .ref y_priceWas, .ref y_isKept, .ref y_kept, .ref y_trace, .int m_traced2_6])), (y_trace, .inl (cI, 16, .inl tr2_7))]) (b_runS (As := [.int kd, .int 3]) (s_X9_isOf2 l D cI cZ cC cS sq H.size kd (3)) S gX9_markOf_X9_isOf rfl hdS_X9_isOf ⟨Nat.le_of_ble_eq_true rfl, Nat.le_of_ble_eq_true rfl⟩ ⟨Nat.le_of_ble_eq_true rfl, Nat.le_of_ble_eq_true rfl⟩ hK hT hS hA hP hD [] rfl (by decide) rfl hl.1 rfl (Nat.le_of_ble_eq_true rfl) dX9_markOf_28) hP hD hS hA [] [0, 1, 2] rfl rfl (by decide) (by decide) (fun r_9 w_10 H locs hw_11 hP hD hS => ?_)
      rcases hw_11 with ⟨hf_12, rfl, rfl⟩ | ⟨hf_13, rfl, rfl⟩
      · have hf_12 : ((3) : Int) = 0 ∨ kd.toInt = ((3) : Int) ∨ (((3) : Int) = 3 ∧ kd.toInt = 5) ∨ (((3) : Int) = 2 ∧ (kd.toInt = 3 ∨ kd.toInt = 4 ∨ kd.toInt = 5)) := hf_12
        have hP : va_P D vwCl [(y_city, .inl (cI, 192, .inl cy)), (y, .inr (9, [.int m_thrown, .int m_status, .ref y_lane, .ref y_many, .ref y_item, .ref y_city, .ref y_fresh, .int m_isThere, .ref y_tape, .int m_taped, .int m_latest, .int m_length, .int m_cursor, .int m_token, .int m_start, .int m_till, .int m_fault, .int m_faultAt, .int m_seen, .int m_mirrors, .ref y_cost, .ref y_away, .ref y_fee, .ref y_goesTo, .ref y_priceWas, .ref y_isKept, .ref y_kept, .ref y_trace, .int m_traced2_6])), (y_trace, .inl (cI, 16, .inl tr2_7))] H := hP
        have hD : va_D A [(y_city, .inl (cI, 192, .inl cy)), (y, .inr (9, [.int m_thrown, .int m_status, .ref y_lane, .ref y_many, .ref y_item, .ref y_city, .ref y_fresh, .int m_isThere, .ref y_tape, .int m_taped, .int m_latest, .int m_length, .int m_cursor, .int m_token, .int m_start, .int m_till, .int m_fault, .int m_faultAt, .int m_seen, .int m_mirrors, .ref y_cost, .ref y_away, .ref y_fee, .ref y_goesTo, .ref y_priceWas, .ref y_isKept, .ref y_kept, .ref y_trace, .int m_traced2_6])), (y_trace, .inl (cI, 16, .inl tr2_7))] := hD
        refine lv_if_eq (tgt := 40) S.1 S.2.1 dX9_markOf_31 (by decide) (fun c_14 => absurd c_14 (by decide)) (fun c_14 => ?_)
        refine lv_aload_n S.1 S.2.1 dX9_markOf_34 rfl (lv_at hl 0 rfl) ?_
        refine lv_bipush (v := (21)) S.1 S.2.1 dX9_markOf_35 (by decide) ?_
        refine b_av (wr := [(y_city, .inl (cI, 192, .inl cy))]) (b_runV (q0 := 1) (ci := 9) (As := [.int 21]) (s_X9_began l D cI cZ cC cS sq H.size y y_trace (21) m_thrown m_status y_lane y_many y_item y_city y_fresh m_isThere y_tape m_taped m_latest m_length m_cursor m_token m_start m_till m_fault m_faultAt m_seen m_mirrors y_cost y_away y_fee y_goesTo y_priceWas y_isKept y_kept m_traced2_6 tr2_7 (by first | assumption | omega | decide | (rw [show Int32.toInt 0 = 0 from rfl]; omega))) S gX9_markOf_X9_began rfl hdV_X9_began ⟨Nat.le_of_ble_eq_true rfl, Nat.le_of_ble_eq_true rfl⟩ ⟨Nat.le_of_ble_eq_true rfl, Nat.le_of_ble_eq_true rfl⟩ hK hT hS hA hP hD rfl rfl [1, 2] rfl (by decide) rfl hl.1 rfl (Nat.le_of_ble_eq_true rfl) dX9_markOf_37) hP hD hS hA [1, 2] [0] rfl rfl (by decide) (by decide) (fun w_16 H locs hw_17 hP hD hS => ?_)
        obtain ⟨m_traced2_18, tr2_19, hf_20, rfl⟩ := hw_17
        have hP : va_P D vwCl [(y_city, .inl (cI, 192, .inl cy)), (y, .inr (9, [.int m_thrown, .int m_status, .ref y_lane, .ref y_many, .ref y_item, .ref y_city, .ref y_fresh, .int m_isThere, .ref y_tape, .int m_taped, .int m_latest, .int m_length, .int m_cursor, .int m_token, .int m_start, .int m_till, .int m_fault, .int m_faultAt, .int m_seen, .int m_mirrors, .ref y_cost, .ref y_away, .ref y_fee, .ref y_goesTo, .ref y_priceWas, .ref y_isKept, .ref y_kept, .ref y_trace, .int m_traced2_18])), (y_trace, .inl (cI, 16, .inl tr2_19))] H := hP
        have hD : va_D A [(y_city, .inl (cI, 192, .inl cy)), (y, .inr (9, [.int m_thrown, .int m_status, .ref y_lane, .ref y_many, .ref y_item, .ref y_city, .ref y_fresh, .int m_isThere, .ref y_tape, .int m_taped, .int m_latest, .int m_length, .int m_cursor, .int m_token, .int m_start, .int m_till, .int m_fault, .int m_faultAt, .int m_seen, .int m_mirrors, .ref y_cost, .ref y_away, .ref y_fee, .ref y_goesTo, .ref y_priceWas, .ref y_isKept, .ref y_kept, .ref y_trace, .int m_traced2_18])), (y_trace, .inl (cI, 16, .inl tr2_19))] := hD
        refine lv_aload_n S.1 S.2.1 dX9_markOf_40 rfl (lv_at hl 0 rfl) ?_
        refine lv_bipush (v := (20)) S.1 S.2.1 dX9_markOf_41 (by decide) ?_
        refine b_av (wr := [(y_city, .inl (cI, 192, .inl cy))]) (b_runV (q0 := 1) (ci := 9) (As := [.int 20]) (s_X9_began l D cI cZ cC cS sq H.size y y_trace (20) m_thrown m_status y_lane y_many y_item y_city y_fresh m_isThere y_tape m_taped m_latest m_length m_cursor m_token m_start m_till m_fault m_faultAt m_seen m_mirrors y_cost y_away y_fee y_goesTo y_priceWas y_isKept y_kept m_traced2_18 tr2_19 (by first | assumption | omega | decide | (rw [show Int32.toInt 0 = 0 from rfl]; omega))) S gX9_markOf_X9_began rfl hdV_X9_began ⟨Nat.le_of_ble_eq_true rfl, Nat.le_of_ble_eq_true rfl⟩ ⟨Nat.le_of_ble_eq_true rfl, Nat.le_of_ble_eq_true rfl⟩ hK hT hS hA hP hD rfl rfl [1, 2] rfl (by decide) rfl hl.1 rfl (Nat.le_of_ble_eq_true rfl) dX9_markOf_43) hP hD hS hA [1, 2] [0] rfl rfl (by decide) (by decide) (fun w_22 H locs hw_23 hP hD hS => ?_)
        obtain ⟨m_traced2_24, tr2_25, hf_26, rfl⟩ := hw_23
        have hP : va_P D vwCl [(y_city, .inl (cI, 192, .inl cy)), (y, .inr (9, [.int m_thrown, .int m_status, .ref y_lane, .ref y_many, .ref y_item, .ref y_city, .ref y_fresh, .int m_isThere, .ref y_tape, .int m_taped, .int m_latest, .int m_length, .int m_cursor, .int m_token, .int m_start, .int m_till, .int m_fault, .int m_faultAt, .int m_seen, .int m_mirrors, .ref y_cost, .ref y_away, .ref y_fee, .ref y_goesTo, .ref y_priceWas, .ref y_isKept, .ref y_kept, .ref y_trace, .int m_traced2_24])), (y_trace, .inl (cI, 16, .inl tr2_25))] H := hP
        have hD : va_D A [(y_city, .inl (cI, 192, .inl cy)), (y, .inr (9, [.int m_thrown, .int m_status, .ref y_lane, .ref y_many, .ref y_item, .ref y_city, .ref y_fresh, .int m_isThere, .ref y_tape, .int m_taped, .int m_latest, .int m_length, .int m_cursor, .int m_token, .int m_start, .int m_till, .int m_fault, .int m_faultAt, .int m_seen, .int m_mirrors, .ref y_cost, .ref y_away, .ref y_fee, .ref y_goesTo, .ref y_priceWas, .ref y_isKept, .ref y_kept, .ref y_trace, .int m_traced2_24])), (y_trace, .inl (cI, 16, .inl tr2_25))] := hD
        refine lv_iload_n S.1 S.2.1 dX9_markOf_46 rfl (lv_at hl 2 rfl) ?_
        refine lv_iconst (v := (4)) S.1 S.2.1 dX9_markOf_47 (by decide) ?_
        refine lv_icmp_ne (tgt := 59) S.1 S.2.1 dX9_markOf_48 (by decide) (fun c_27 => ?_) (fun c_27 => ?_)
        · rw [eq2 (a := kd) (b := 4) (A := kd.toInt) (B := 4) rfl rfl] at c_27
          refine lv_iload_n S.1 S.2.1 dX9_markOf_59 rfl (lv_at hl 2 rfl) ?_
          refine lv_iconst (v := (3)) S.1 S.2.1 dX9_markOf_60 (by decide) ?_
          refine b_ai (wr := [(y_city, .inl (cI, 192, .inl cy)), (y, .inr (9, [.int m_thrown, .int m_status, .ref y_lane, .ref y_many, .ref y_item, .ref y_city, .ref y_fresh, .int m_isThere, .ref y_tape, .int m_taped, .int m_latest, .int m_length, .int m_cursor, .int m_token, .int m_start, .int m_till, .int m_fault, .int m_faultAt, .int m_seen, .int m_mirrors, .ref y_cost, .ref y_away, .ref y_fee, .ref y_goesTo, .ref y_priceWas, .ref y_isKept, .ref y_kept, .ref y_trace, .int m_traced2_24])), (y_trace, .inl (cI, 16, .inl tr2_25))]) (b_runS (As := [.int kd, .int 3]) (s_X9_isOf2 l D cI cZ cC cS sq H.size kd (3)) S gX9_markOf_X9_isOf rfl hdS_X9_isOf ⟨Nat.le_of_ble_eq_true rfl, Nat.le_of_ble_eq_true rfl⟩ ⟨Nat.le_of_ble_eq_true rfl, Nat.le_of_ble_eq_true rfl⟩ hK hT hS hA hP hD [] rfl (by decide) rfl hl.1 rfl (Nat.le_of_ble_eq_true rfl) dX9_markOf_61) hP hD hS hA [] [0, 1, 2] rfl rfl (by decide) (by decide) (fun r_28 w_29 H locs hw_30 hP hD hS => ?_)
          rcases hw_30 with ⟨hf_31, rfl, rfl⟩ | ⟨hf_32, rfl, rfl⟩
          · have hf_31 : ((3) : Int) = 0 ∨ kd.toInt = ((3) : Int) ∨ (((3) : Int) = 3 ∧ kd.toInt = 5) ∨ (((3) : Int) = 2 ∧ (kd.toInt = 3 ∨ kd.toInt = 4 ∨ kd.toInt = 5)) := hf_31
            have hP : va_P D vwCl [(y_city, .inl (cI, 192, .inl cy)), (y, .inr (9, [.int m_thrown, .int m_status, .ref y_lane, .ref y_many, .ref y_item, .ref y_city, .ref y_fresh, .int m_isThere, .ref y_tape, .int m_taped, .int m_latest, .int m_length, .int m_cursor, .int m_token, .int m_start, .int m_till, .int m_fault, .int m_faultAt, .int m_seen, .int m_mirrors, .ref y_cost, .ref y_away, .ref y_fee, .ref y_goesTo, .ref y_priceWas, .ref y_isKept, .ref y_kept, .ref y_trace, .int m_traced2_24])), (y_trace, .inl (cI, 16, .inl tr2_25))] H := hP
            have hD : va_D A [(y_city, .inl (cI, 192, .inl cy)), (y, .inr (9, [.int m_thrown, .int m_status, .ref y_lane, .ref y_many, .ref y_item, .ref y_city, .ref y_fresh, .int m_isThere, .ref y_tape, .int m_taped, .int m_latest, .int m_length, .int m_cursor, .int m_token, .int m_start, .int m_till, .int m_fault, .int m_faultAt, .int m_seen, .int m_mirrors, .ref y_cost, .ref y_away, .ref y_fee, .ref y_goesTo, .ref y_priceWas, .ref y_isKept, .ref y_kept, .ref y_trace, .int m_traced2_24])), (y_trace, .inl (cI, 16, .inl tr2_25))] := hD
            refine lv_if_eq (tgt := 91) S.1 S.2.1 dX9_markOf_64 (by decide) (fun c_33 => absurd c_33 (by decide)) (fun c_33 => ?_)
            refine lv_iload_n S.1 S.2.1 dX9_markOf_67 rfl (lv_at hl 1 rfl) ?_
            refine lv_bipush (v := (100)) S.1 S.2.1 dX9_markOf_68 (by decide) ?_
            refine lv_aload_n S.1 S.2.1 dX9_markOf_70 rfl (lv_at hl 0 rfl) ?_
            refine b_get (v := .ref y_city) S iX9 hK hP 1 rfl rfl 5 (by decide) (by decide +kernel) rfl dX9_markOf_71 ?_
            refine lv_bipush (v := (84)) S.1 S.2.1 dX9_markOf_74 (by decide) ?_
            refine lv_aload_n S.1 S.2.1 dX9_markOf_76 rfl (lv_at hl 0 rfl) ?_
            refine b_get (v := .ref y_city) S iX9 hK hP 1 rfl rfl 5 (by decide) (by decide +kernel) rfl dX9_markOf_77 ?_
            refine lv_iconst (v := (4)) S.1 S.2.1 dX9_markOf_80 (by decide) ?_
            refine lv_iload_n S.1 S.2.1 dX9_markOf_81 rfl (lv_at hl 1 rfl) ?_
            refine lv_iadd S.1 S.2.1 dX9_markOf_82 ?_
            refine lv_topi (fun x_34 ex_34 => ?_)
            have tx_34 : x_34.toInt = 4 + (k.toInt) := addI (A := 4) (B := k.toInt) ex_34 rfl rfl (by omega) (by omega)
            have hin_35 : vp_in x_34 192 := (in_of (n := 192) (by omega) (by omega))
            refine va_iald S.1 S.2.1 hK.1 hP 0 0 rfl rfl hin_35 dX9_markOf_83 ?_
            refine lv_topi (fun x_36 ex_36 => ?_)
            have tx_36 := cyg_A (x := x_36) (show prd cyK 192 cy by assumption) (by omega) ex_36
            have bx_36 : x_36.toInt = (cy (4 + k.toInt.toNat)).toInt := by rw [ex_36, show (x_34).toNatClampNeg = 4 + k.toInt.toNat from by show (x_34).toInt.toNat = _; omega]
            refine lv_iadd S.1 S.2.1 dX9_markOf_84 ?_
            refine lv_topi (fun x_37 ex_37 => ?_)
            have tx_37 : x_37.toInt = 84 + (x_36.toInt) := addI (A := 84) (B := x_36.toInt) ex_37 rfl rfl (by omega) (by omega)
            have hin_38 : vp_in x_37 192 := (in_of (n := 192) (by omega) (by omega))
            refine va_iald S.1 S.2.1 hK.1 hP 0 0 rfl rfl hin_38 dX9_markOf_85 ?_
            refine lv_topi (fun x_39 ex_39 => ?_)
            have tx_39 := cyg_P (x := x_39) (show prd cyK 192 cy by assumption) (by omega) ex_39
            refine lv_imul S.1 S.2.1 dX9_markOf_86 ?_
            refine lv_topi (fun x_40 ex_40 => ?_)
            refine lv_iadd S.1 S.2.1 dX9_markOf_87 ?_
            refine lv_topi (fun x_41 ex_41 => ?_)
            refine lv_goto (tgt := 92) S.1 S.2.1 dX9_markOf_88 (by decide) ?_
            refine lv_istore_n (lv' := [(3, .int x_41), (0, .ref y), (1, .int k), (2, .int kd)]) S.1 S.2.1 dX9_markOf_92 rfl hl (by decide) rfl (fun ls hl => ?_)
            refine lv_iload_n S.1 S.2.1 dX9_markOf_93 rfl (lv_at hl 3 rfl) ?_
            refine lv_iconst (v := (5)) S.1 S.2.1 dX9_markOf_94 (by decide) ?_
            refine lv_icmp_ne (tgt := 106) S.1 S.2.1 dX9_markOf_95 (by decide) (fun c_42 => ?_) (fun c_42 => ?_)
            · rw [eq2 (a := kd) (b := 5) (A := kd.toInt) (B := 5) rfl rfl] at c_42
              refine lv_iload_n S.1 S.2.1 dX9_markOf_106 rfl (lv_at hl 0 rfl) ?_
              have hP := hP.sub (ws' := [(y, .inr (9, [.int m_thrown, .int m_status, .ref y_lane, .ref y_many, .ref y_item, .ref y_city, .ref y_fresh, .int m_isThere, .ref y_tape, .int m_taped, .int m_latest, .int m_length, .int m_cursor, .int m_token, .int m_start, .int m_till, .int m_fault, .int m_faultAt, .int m_seen, .int m_mirrors, .ref y_cost, .ref y_away, .ref y_fee, .ref y_goesTo, .ref y_priceWas, .ref y_isKept, .ref y_kept, .ref y_trace, .int m_traced2_24])), (y_trace, .inl (cI, 16, .inl tr2_25)), (y_city, .inl (cI, 192, .inl cy))]) [1, 2, 0] rfl
              have hD := hD.sub (ws' := [(y, .inr (9, [.int m_thrown, .int m_status, .ref y_lane, .ref y_many, .ref y_item, .ref y_city, .ref y_fresh, .int m_isThere, .ref y_tape, .int m_taped, .int m_latest, .int m_length, .int m_cursor, .int m_token, .int m_start, .int m_till, .int m_fault, .int m_faultAt, .int m_seen, .int m_mirrors, .ref y_cost, .ref y_away, .ref y_fee, .ref y_goesTo, .ref y_priceWas, .ref y_isKept, .ref y_kept, .ref y_trace, .int m_traced2_24])), (y_trace, .inl (cI, 16, .inl tr2_25)), (y_city, .inl (cI, 192, .inl cy))]) [1, 2, 0] (by decide) rfl
              exact b_iret S.1 S.2.1 X.2.1 X.2.2.1 hP hD hS ⟨m_traced2_24, tr2_25, (by first | assumption | omega | decide | (rw [show Int32.toInt 0 = 0 from rfl]; omega)), rfl⟩ dX9_markOf_107
            · rw [eq2 (a := kd) (b := 5) (A := kd.toInt) (B := 5) rfl rfl] at c_42
              refine lv_iload_n S.1 S.2.1 dX9_markOf_98 rfl (lv_at hl 0 rfl) ?_
              refine lv_sipush (v := (1000)) S.1 S.2.1 dX9_markOf_99 (by decide) ?_
              refine lv_isub S.1 S.2.1 dX9_markOf_102 ?_
              refine lv_topi (fun x_43 ex_43 => ?_)
              refine lv_goto (tgt := 107) S.1 S.2.1 dX9_markOf_103 (by decide) ?_
              have hP := hP.sub (ws' := [(y, .inr (9, [.int m_thrown, .int m_status, .ref y_lane, .ref y_many, .ref y_item, .ref y_city, .ref y_fresh, .int m_isThere, .ref y_tape, .int m_taped, .int m_latest, .int m_length, .int m_cursor, .int m_token, .int m_start, .int m_till, .int m_fault, .int m_faultAt, .int m_seen, .int m_mirrors, .ref y_cost, .ref y_away, .ref y_fee, .ref y_goesTo, .ref y_priceWas, .ref y_isKept, .ref y_kept, .ref y_trace, .int m_traced2_24])), (y_trace, .inl (cI, 16, .inl tr2_25)), (y_city, .inl (cI, 192, .inl cy))]) [1, 2, 0] rfl
              have hD := hD.sub (ws' := [(y, .inr (9, [.int m_thrown, .int m_status, .ref y_lane, .ref y_many, .ref y_item, .ref y_city, .ref y_fresh, .int m_isThere, .ref y_tape, .int m_taped, .int m_latest, .int m_length, .int m_cursor, .int m_token, .int m_start, .int m_till, .int m_fault, .int m_faultAt, .int m_seen, .int m_mirrors, .ref y_cost, .ref y_away, .ref y_fee, .ref y_goesTo, .ref y_priceWas, .ref y_isKept, .ref y_kept, .ref y_trace, .int m_traced2_24])), (y_trace, .inl (cI, 16, .inl tr2_25)), (y_city, .inl (cI, 192, .inl cy))]) [1, 2, 0] (by decide) rfl
              exact b_iret S.1 S.2.1 X.2.1 X.2.2.1 hP hD hS ⟨m_traced2_24, tr2_25, (by first | assumption | omega | decide | (rw [show Int32.toInt 0 = 0 from rfl]; omega)), rfl⟩ dX9_markOf_107
          · have hf_32 : ¬ (((3) : Int) = 0 ∨ kd.toInt = ((3) : Int) ∨ (((3) : Int) = 3 ∧ kd.toInt = 5) ∨ (((3) : Int) = 2 ∧ (kd.toInt = 3 ∨ kd.toInt = 4 ∨ kd.toInt = 5))) := hf_32
            have hP : va_P D vwCl [(y_city, .inl (cI, 192, .inl cy)), (y, .inr (9, [.int m_thrown, .int m_status, .ref y_lane, .ref y_many, .ref y_item, .ref y_city, .ref y_fresh, .int m_isThere, .ref y_tape, .int m_taped, .int m_latest, .int m_length, .int m_cursor, .int m_token, .int m_start, .int m_till, .int m_fault, .int m_faultAt, .int m_seen, .int m_mirrors, .ref y_cost, .ref y_away, .ref y_fee, .ref y_goesTo, .ref y_priceWas, .ref y_isKept, .ref y_kept, .ref y_trace, .int m_traced2_24])), (y_trace, .inl (cI, 16, .inl tr2_25))] H := hP
            have hD : va_D A [(y_city, .inl (cI, 192, .inl cy)), (y, .inr (9, [.int m_thrown, .int m_status, .ref y_lane, .ref y_many, .ref y_item, .ref y_city, .ref y_fresh, .int m_isThere, .ref y_tape, .int m_taped, .int m_latest, .int m_length, .int m_cursor, .int m_token, .int m_start, .int m_till, .int m_fault, .int m_faultAt, .int m_seen, .int m_mirrors, .ref y_cost, .ref y_away, .ref y_fee, .ref y_goesTo, .ref y_priceWas, .ref y_isKept, .ref y_kept, .ref y_trace, .int m_traced2_24])), (y_trace, .inl (cI, 16, .inl tr2_25))] := hD
            refine lv_if_eq (tgt := 91) S.1 S.2.1 dX9_markOf_64 (by decide) (fun c_44 => ?_) (fun c_44 => absurd c_44 (by decide))
            refine lv_iload_n S.1 S.2.1 dX9_markOf_91 rfl (lv_at hl 1 rfl) ?_
            refine lv_istore_n (lv' := [(3, .int k), (0, .ref y), (1, .int k), (2, .int kd)]) S.1 S.2.1 dX9_markOf_92 rfl hl (by decide) rfl (fun ls hl => ?_)
            refine lv_iload_n S.1 S.2.1 dX9_markOf_93 rfl (lv_at hl 3 rfl) ?_
            refine lv_iconst (v := (5)) S.1 S.2.1 dX9_markOf_94 (by decide) ?_
            refine lv_icmp_ne (tgt := 106) S.1 S.2.1 dX9_markOf_95 (by decide) (fun c_45 => ?_) (fun c_45 => ?_)
            · rw [eq2 (a := kd) (b := 5) (A := kd.toInt) (B := 5) rfl rfl] at c_45
              refine lv_iload_n S.1 S.2.1 dX9_markOf_106 rfl (lv_at hl 0 rfl) ?_
              have hP := hP.sub (ws' := [(y, .inr (9, [.int m_thrown, .int m_status, .ref y_lane, .ref y_many, .ref y_item, .ref y_city, .ref y_fresh, .int m_isThere, .ref y_tape, .int m_taped, .int m_latest, .int m_length, .int m_cursor, .int m_token, .int m_start, .int m_till, .int m_fault, .int m_faultAt, .int m_seen, .int m_mirrors, .ref y_cost, .ref y_away, .ref y_fee, .ref y_goesTo, .ref y_priceWas, .ref y_isKept, .ref y_kept, .ref y_trace, .int m_traced2_24])), (y_trace, .inl (cI, 16, .inl tr2_25)), (y_city, .inl (cI, 192, .inl cy))]) [1, 2, 0] rfl
              have hD := hD.sub (ws' := [(y, .inr (9, [.int m_thrown, .int m_status, .ref y_lane, .ref y_many, .ref y_item, .ref y_city, .ref y_fresh, .int m_isThere, .ref y_tape, .int m_taped, .int m_latest, .int m_length, .int m_cursor, .int m_token, .int m_start, .int m_till, .int m_fault, .int m_faultAt, .int m_seen, .int m_mirrors, .ref y_cost, .ref y_away, .ref y_fee, .ref y_goesTo, .ref y_priceWas, .ref y_isKept, .ref y_kept, .ref y_trace, .int m_traced2_24])), (y_trace, .inl (cI, 16, .inl tr2_25)), (y_city, .inl (cI, 192, .inl cy))]) [1, 2, 0] (by decide) rfl
              exact b_iret S.1 S.2.1 X.2.1 X.2.2.1 hP hD hS ⟨m_traced2_24, tr2_25, (by first | assumption | omega | decide | (rw [show Int32.toInt 0 = 0 from rfl]; omega)), rfl⟩ dX9_markOf_107
            · rw [eq2 (a := kd) (b := 5) (A := kd.toInt) (B := 5) rfl rfl] at c_45
              refine lv_iload_n S.1 S.2.1 dX9_markOf_98 rfl (lv_at hl 0 rfl) ?_
              refine lv_sipush (v := (1000)) S.1 S.2.1 dX9_markOf_99 (by decide) ?_
              refine lv_isub S.1 S.2.1 dX9_markOf_102 ?_
              refine lv_topi (fun x_46 ex_46 => ?_)
              refine lv_goto (tgt := 107) S.1 S.2.1 dX9_markOf_103 (by decide) ?_
              have hP := hP.sub (ws' := [(y, .inr (9, [.int m_thrown, .int m_status, .ref y_lane, .ref y_many, .ref y_item, .ref y_city, .ref y_fresh, .int m_isThere, .ref y_tape, .int m_taped, .int m_latest, .int m_length, .int m_cursor, .int m_token, .int m_start, .int m_till, .int m_fault, .int m_faultAt, .int m_seen, .int m_mirrors, .ref y_cost, .ref y_away, .ref y_fee, .ref y_goesTo, .ref y_priceWas, .ref y_isKept, .ref y_kept, .ref y_trace, .int m_traced2_24])), (y_trace, .inl (cI, 16, .inl tr2_25)), (y_city, .inl (cI, 192, .inl cy))]) [1, 2, 0] rfl
              have hD := hD.sub (ws' := [(y, .inr (9, [.int m_thrown, .int m_status, .ref y_lane, .ref y_many, .ref y_item, .ref y_city, .ref y_fresh, .int m_isThere, .ref y_tape, .int m_taped, .int m_latest, .int m_length, .int m_cursor, .int m_token, .int m_start, .int m_till, .int m_fault, .int m_faultAt, .int m_seen, .int m_mirrors, .ref y_cost, .ref y_away, .ref y_fee, .ref y_goesTo, .ref y_priceWas, .ref y_isKept, .ref y_kept, .ref y_trace, .int m_traced2_24])), (y_trace, .inl (cI, 16, .inl tr2_25)), (y_city, .inl (cI, 192, .inl cy))]) [1, 2, 0] (by decide) rfl
              exact b_iret S.1 S.2.1 X.2.1 X.2.2.1 hP hD hS ⟨m_traced2_24, tr2_25, (by first | assumption | omega | decide | (rw [show Int32.toInt 0 = 0 from rfl]; omega)), rfl⟩ dX9_markOf_107
        · rw [eq2 (a := kd) (b := 4) (A := kd.toInt) (B := 4) rfl rfl] at c_27
          refine lv_iload_n S.1 S.2.1 dX9_markOf_51 rfl (lv_at hl 1 rfl) ?_
          refine lv_aload_n S.1 S.2.1 dX9_markOf_52 rfl (lv_at hl 0 rfl) ?_
          refine lv_iload_n S.1 S.2.1 dX9_markOf_53 rfl (lv_at hl 1 rfl) ?_
          refine b_ai (wr := []) (b_runV (q0 := 1) (ci := 9) (As := [.int k]) (s_X9_wallSize l D cI cZ cC cS sq H.size y y_trace y_city k m_thrown m_status y_lane y_many y_item y_fresh m_isThere y_tape m_taped m_latest m_length m_cursor m_token m_start m_till m_fault m_faultAt m_seen m_mirrors y_cost y_away y_fee y_goesTo y_priceWas y_isKept y_kept m_traced2_24 tr2_25 cy (by first | assumption | omega | decide | (rw [show Int32.toInt 0 = 0 from rfl]; omega)) (by first | assumption | omega | decide | (rw [show Int32.toInt 0 = 0 from rfl]; omega)) (by first | assumption | omega | decide | (rw [show Int32.toInt 0 = 0 from rfl]; omega))) S gX9_markOf_X9_wallSize rfl hdV_X9_wallSize ⟨Nat.le_of_ble_eq_true rfl, Nat.le_of_ble_eq_true rfl⟩ ⟨Nat.le_of_ble_eq_true rfl, Nat.le_of_ble_eq_true rfl⟩ hK hT hS hA hP hD rfl rfl [1, 2, 0] rfl (by decide) rfl hl.1 rfl (Nat.le_of_ble_eq_true rfl) dX9_markOf_54) hP hD hS hA [1, 2, 0] [] rfl rfl (by decide) (by decide) (fun r_47 w_48 H locs hw_49 hP hD hS => ?_)
          obtain ⟨m_traced2_50, tr2_51, hf_52, rfl⟩ := hw_49
          have hP : va_P D vwCl [(y, .inr (9, [.int m_thrown, .int m_status, .ref y_lane, .ref y_many, .ref y_item, .ref y_city, .ref y_fresh, .int m_isThere, .ref y_tape, .int m_taped, .int m_latest, .int m_length, .int m_cursor, .int m_token, .int m_start, .int m_till, .int m_fault, .int m_faultAt, .int m_seen, .int m_mirrors, .ref y_cost, .ref y_away, .ref y_fee, .ref y_goesTo, .ref y_priceWas, .ref y_isKept, .ref y_kept, .ref y_trace, .int m_traced2_50])), (y_trace, .inl (cI, 16, .inl tr2_51)), (y_city, .inl (cI, 192, .inl cy))] H := hP
          have hD : va_D A [(y, .inr (9, [.int m_thrown, .int m_status, .ref y_lane, .ref y_many, .ref y_item, .ref y_city, .ref y_fresh, .int m_isThere, .ref y_tape, .int m_taped, .int m_latest, .int m_length, .int m_cursor, .int m_token, .int m_start, .int m_till, .int m_fault, .int m_faultAt, .int m_seen, .int m_mirrors, .ref y_cost, .ref y_away, .ref y_fee, .ref y_goesTo, .ref y_priceWas, .ref y_isKept, .ref y_kept, .ref y_trace, .int m_traced2_50])), (y_trace, .inl (cI, 16, .inl tr2_51)), (y_city, .inl (cI, 192, .inl cy))] := hD
          refine lv_iadd S.1 S.2.1 dX9_markOf_57 ?_
          refine lv_topi (fun x_53 ex_53 => ?_)
          exact b_iret S.1 S.2.1 X.2.1 X.2.2.1 hP hD hS ⟨m_traced2_50, tr2_51, (by first | assumption | omega | decide | (rw [show Int32.toInt 0 = 0 from rfl]; omega)), rfl⟩ dX9_markOf_58
      · have hf_13 : ¬ (((3) : Int) = 0 ∨ kd.toInt = ((3) : Int) ∨ (((3) : Int) = 3 ∧ kd.toInt = 5) ∨ (((3) : Int) = 2 ∧ (kd.toInt = 3 ∨ kd.toInt = 4 ∨ kd.toInt = 5))) := hf_13
        have hP : va_P D vwCl [(y_city, .inl (cI, 192, .inl cy)), (y, .inr (9, [.int m_thrown, .int m_status, .ref y_lane, .ref y_many, .ref y_item, .ref y_city, .ref y_fresh, .int m_isThere, .ref y_tape, .int m_taped, .int m_latest, .int m_length, .int m_cursor, .int m_token, .int m_start, .int m_till, .int m_fault, .int m_faultAt, .int m_seen, .int m_mirrors, .ref y_cost, .ref y_away, .ref y_fee, .ref y_goesTo, .ref y_priceWas, .ref y_isKept, .ref y_kept, .ref y_trace, .int m_traced2_6])), (y_trace, .inl (cI, 16, .inl tr2_7))] H := hP
        have hD : va_D A [(y_city, .inl (cI, 192, .inl cy)), (y, .inr (9, [.int m_thrown, .int m_status, .ref y_lane, .ref y_many, .ref y_item, .ref y_city, .ref y_fresh, .int m_isThere, .ref y_tape, .int m_taped, .int m_latest, .int m_length, .int m_cursor, .int m_token, .int m_start, .int m_till, .int m_fault, .int m_faultAt, .int m_seen, .int m_mirrors, .ref y_cost, .ref y_away, .ref y_fee, .ref y_goesTo, .ref y_priceWas, .ref y_isKept, .ref y_kept, .ref y_trace, .int m_traced2_6])), (y_trace, .inl (cI, 16, .inl tr2_7))] := hD
        refine lv_if_eq (tgt := 40) S.1 S.2.1 dX9_markOf_31 (by decide) (fun c_54 => ?_) (fun c_54 => absurd c_54 (by decide))
        refine lv_aload_n S.1 S.2.1 dX9_markOf_40 rfl (lv_at hl 0 rfl) ?_
        refine lv_bipush (v := (20)) S.1 S.2.1 dX9_markOf_41 (by decide) ?_
        refine b_av (wr := [(y_city, .inl (cI, 192, .inl cy))]) (b_runV (q0 := 1) (ci := 9) (As := [.int 20]) (s_X9_began l D cI cZ cC cS sq H.size y y_trace (20) m_thrown m_status y_lane y_many y_item y_city y_fresh m_isThere y_tape m_taped m_latest m_length m_cursor m_token m_start m_till m_fault m_faultAt m_seen m_mirrors y_cost y_away y_fee y_goesTo y_priceWas y_isKept y_kept m_traced2_6 tr2_7 (by first | assumption | omega | decide | (rw [show Int32.toInt 0 = 0 from rfl]; omega))) S gX9_markOf_X9_began rfl hdV_X9_began ⟨Nat.le_of_ble_eq_true rfl, Nat.le_of_ble_eq_true rfl⟩ ⟨Nat.le_of_ble_eq_true rfl, Nat.le_of_ble_eq_true rfl⟩ hK hT hS hA hP hD rfl rfl [1, 2] rfl (by decide) rfl hl.1 rfl (Nat.le_of_ble_eq_true rfl) dX9_markOf_43) hP hD hS hA [1, 2] [0] rfl rfl (by decide) (by decide) (fun w_56 H locs hw_57 hP hD hS => ?_)
        obtain ⟨m_traced2_58, tr2_59, hf_60, rfl⟩ := hw_57
        have hP : va_P D vwCl [(y_city, .inl (cI, 192, .inl cy)), (y, .inr (9, [.int m_thrown, .int m_status, .ref y_lane, .ref y_many, .ref y_item, .ref y_city, .ref y_fresh, .int m_isThere, .ref y_tape, .int m_taped, .int m_latest, .int m_length, .int m_cursor, .int m_token, .int m_start, .int m_till, .int m_fault, .int m_faultAt, .int m_seen, .int m_mirrors, .ref y_cost, .ref y_away, .ref y_fee, .ref y_goesTo, .ref y_priceWas, .ref y_isKept, .ref y_kept, .ref y_trace, .int m_traced2_58])), (y_trace, .inl (cI, 16, .inl tr2_59))] H := hP
        have hD : va_D A [(y_city, .inl (cI, 192, .inl cy)), (y, .inr (9, [.int m_thrown, .int m_status, .ref y_lane, .ref y_many, .ref y_item, .ref y_city, .ref y_fresh, .int m_isThere, .ref y_tape, .int m_taped, .int m_latest, .int m_length, .int m_cursor, .int m_token, .int m_start, .int m_till, .int m_fault, .int m_faultAt, .int m_seen, .int m_mirrors, .ref y_cost, .ref y_away, .ref y_fee, .ref y_goesTo, .ref y_priceWas, .ref y_isKept, .ref y_kept, .ref y_trace, .int m_traced2_58])), (y_trace, .inl (cI, 16, .inl tr2_59))] := hD
        refine lv_iload_n S.1 S.2.1 dX9_markOf_46 rfl (lv_at hl 2 rfl) ?_
        refine lv_iconst (v := (4)) S.1 S.2.1 dX9_markOf_47 (by decide) ?_
        refine lv_icmp_ne (tgt := 59) S.1 S.2.1 dX9_markOf_48 (by decide) (fun c_61 => ?_) (fun c_61 => ?_)
        · rw [eq2 (a := kd) (b := 4) (A := kd.toInt) (B := 4) rfl rfl] at c_61
          refine lv_iload_n S.1 S.2.1 dX9_markOf_59 rfl (lv_at hl 2 rfl) ?_
          refine lv_iconst (v := (3)) S.1 S.2.1 dX9_markOf_60 (by decide) ?_
          refine b_ai (wr := [(y_city, .inl (cI, 192, .inl cy)), (y, .inr (9, [.int m_thrown, .int m_status, .ref y_lane, .ref y_many, .ref y_item, .ref y_city, .ref y_fresh, .int m_isThere, .ref y_tape, .int m_taped, .int m_latest, .int m_length, .int m_cursor, .int m_token, .int m_start, .int m_till, .int m_fault, .int m_faultAt, .int m_seen, .int m_mirrors, .ref y_cost, .ref y_away, .ref y_fee, .ref y_goesTo, .ref y_priceWas, .ref y_isKept, .ref y_kept, .ref y_trace, .int m_traced2_58])), (y_trace, .inl (cI, 16, .inl tr2_59))]) (b_runS (As := [.int kd, .int 3]) (s_X9_isOf2 l D cI cZ cC cS sq H.size kd (3)) S gX9_markOf_X9_isOf rfl hdS_X9_isOf ⟨Nat.le_of_ble_eq_true rfl, Nat.le_of_ble_eq_true rfl⟩ ⟨Nat.le_of_ble_eq_true rfl, Nat.le_of_ble_eq_true rfl⟩ hK hT hS hA hP hD [] rfl (by decide) rfl hl.1 rfl (Nat.le_of_ble_eq_true rfl) dX9_markOf_61) hP hD hS hA [] [0, 1, 2] rfl rfl (by decide) (by decide) (fun r_62 w_63 H locs hw_64 hP hD hS => ?_)
          rcases hw_64 with ⟨hf_65, rfl, rfl⟩ | ⟨hf_66, rfl, rfl⟩
          · have hf_65 : ((3) : Int) = 0 ∨ kd.toInt = ((3) : Int) ∨ (((3) : Int) = 3 ∧ kd.toInt = 5) ∨ (((3) : Int) = 2 ∧ (kd.toInt = 3 ∨ kd.toInt = 4 ∨ kd.toInt = 5)) := hf_65
            have hP : va_P D vwCl [(y_city, .inl (cI, 192, .inl cy)), (y, .inr (9, [.int m_thrown, .int m_status, .ref y_lane, .ref y_many, .ref y_item, .ref y_city, .ref y_fresh, .int m_isThere, .ref y_tape, .int m_taped, .int m_latest, .int m_length, .int m_cursor, .int m_token, .int m_start, .int m_till, .int m_fault, .int m_faultAt, .int m_seen, .int m_mirrors, .ref y_cost, .ref y_away, .ref y_fee, .ref y_goesTo, .ref y_priceWas, .ref y_isKept, .ref y_kept, .ref y_trace, .int m_traced2_58])), (y_trace, .inl (cI, 16, .inl tr2_59))] H := hP
            have hD : va_D A [(y_city, .inl (cI, 192, .inl cy)), (y, .inr (9, [.int m_thrown, .int m_status, .ref y_lane, .ref y_many, .ref y_item, .ref y_city, .ref y_fresh, .int m_isThere, .ref y_tape, .int m_taped, .int m_latest, .int m_length, .int m_cursor, .int m_token, .int m_start, .int m_till, .int m_fault, .int m_faultAt, .int m_seen, .int m_mirrors, .ref y_cost, .ref y_away, .ref y_fee, .ref y_goesTo, .ref y_priceWas, .ref y_isKept, .ref y_kept, .ref y_trace, .int m_traced2_58])), (y_trace, .inl (cI, 16, .inl tr2_59))] := hD
            refine lv_if_eq (tgt := 91) S.1 S.2.1 dX9_markOf_64 (by decide) (fun c_67 => absurd c_67 (by decide)) (fun c_67 => ?_)
            refine lv_iload_n S.1 S.2.1 dX9_markOf_67 rfl (lv_at hl 1 rfl) ?_
            refine lv_bipush (v := (100)) S.1 S.2.1 dX9_markOf_68 (by decide) ?_
            refine lv_aload_n S.1 S.2.1 dX9_markOf_70 rfl (lv_at hl 0 rfl) ?_
            refine b_get (v := .ref y_city) S iX9 hK hP 1 rfl rfl 5 (by decide) (by decide +kernel) rfl dX9_markOf_71 ?_
            refine lv_bipush (v := (84)) S.1 S.2.1 dX9_markOf_74 (by decide) ?_
            refine lv_aload_n S.1 S.2.1 dX9_markOf_76 rfl (lv_at hl 0 rfl) ?_
            refine b_get (v := .ref y_city) S iX9 hK hP 1 rfl rfl 5 (by decide) (by decide +kernel) rfl dX9_markOf_77 ?_
            refine lv_iconst (v := (4)) S.1 S.2.1 dX9_markOf_80 (by decide) ?_
            refine lv_iload_n S.1 S.2.1 dX9_markOf_81 rfl (lv_at hl 1 rfl) ?_
            refine lv_iadd S.1 S.2.1 dX9_markOf_82 ?_
            refine lv_topi (fun x_68 ex_68 => ?_)
            have tx_68 : x_68.toInt = 4 + (k.toInt) := addI (A := 4) (B := k.toInt) ex_68 rfl rfl (by omega) (by omega)
            have hin_69 : vp_in x_68 192 := (in_of (n := 192) (by omega) (by omega))
            refine va_iald S.1 S.2.1 hK.1 hP 0 0 rfl rfl hin_69 dX9_markOf_83 ?_
            refine lv_topi (fun x_70 ex_70 => ?_)
            have tx_70 := cyg_A (x := x_70) (show prd cyK 192 cy by assumption) (by omega) ex_70
            have bx_70 : x_70.toInt = (cy (4 + k.toInt.toNat)).toInt := by rw [ex_70, show (x_68).toNatClampNeg = 4 + k.toInt.toNat from by show (x_68).toInt.toNat = _; omega]
            refine lv_iadd S.1 S.2.1 dX9_markOf_84 ?_
            refine lv_topi (fun x_71 ex_71 => ?_)
            have tx_71 : x_71.toInt = 84 + (x_70.toInt) := addI (A := 84) (B := x_70.toInt) ex_71 rfl rfl (by omega) (by omega)
            have hin_72 : vp_in x_71 192 := (in_of (n := 192) (by omega) (by omega))
            refine va_iald S.1 S.2.1 hK.1 hP 0 0 rfl rfl hin_72 dX9_markOf_85 ?_
            refine lv_topi (fun x_73 ex_73 => ?_)
            have tx_73 := cyg_P (x := x_73) (show prd cyK 192 cy by assumption) (by omega) ex_73
            refine lv_imul S.1 S.2.1 dX9_markOf_86 ?_
            refine lv_topi (fun x_74 ex_74 => ?_)
            refine lv_iadd S.1 S.2.1 dX9_markOf_87 ?_
            refine lv_topi (fun x_75 ex_75 => ?_)
            refine lv_goto (tgt := 92) S.1 S.2.1 dX9_markOf_88 (by decide) ?_
            refine lv_istore_n (lv' := [(3, .int x_75), (0, .ref y), (1, .int k), (2, .int kd)]) S.1 S.2.1 dX9_markOf_92 rfl hl (by decide) rfl (fun ls hl => ?_)
            refine lv_iload_n S.1 S.2.1 dX9_markOf_93 rfl (lv_at hl 3 rfl) ?_
            refine lv_iconst (v := (5)) S.1 S.2.1 dX9_markOf_94 (by decide) ?_
            refine lv_icmp_ne (tgt := 106) S.1 S.2.1 dX9_markOf_95 (by decide) (fun c_76 => ?_) (fun c_76 => ?_)
            · rw [eq2 (a := kd) (b := 5) (A := kd.toInt) (B := 5) rfl rfl] at c_76
              refine lv_iload_n S.1 S.2.1 dX9_markOf_106 rfl (lv_at hl 0 rfl) ?_
              have hP := hP.sub (ws' := [(y, .inr (9, [.int m_thrown, .int m_status, .ref y_lane, .ref y_many, .ref y_item, .ref y_city, .ref y_fresh, .int m_isThere, .ref y_tape, .int m_taped, .int m_latest, .int m_length, .int m_cursor, .int m_token, .int m_start, .int m_till, .int m_fault, .int m_faultAt, .int m_seen, .int m_mirrors, .ref y_cost, .ref y_away, .ref y_fee, .ref y_goesTo, .ref y_priceWas, .ref y_isKept, .ref y_kept, .ref y_trace, .int m_traced2_58])), (y_trace, .inl (cI, 16, .inl tr2_59)), (y_city, .inl (cI, 192, .inl cy))]) [1, 2, 0] rfl
              have hD := hD.sub (ws' := [(y, .inr (9, [.int m_thrown, .int m_status, .ref y_lane, .ref y_many, .ref y_item, .ref y_city, .ref y_fresh, .int m_isThere, .ref y_tape, .int m_taped, .int m_latest, .int m_length, .int m_cursor, .int m_token, .int m_start, .int m_till, .int m_fault, .int m_faultAt, .int m_seen, .int m_mirrors, .ref y_cost, .ref y_away, .ref y_fee, .ref y_goesTo, .ref y_priceWas, .ref y_isKept, .ref y_kept, .ref y_trace, .int m_traced2_58])), (y_trace, .inl (cI, 16, .inl tr2_59)), (y_city, .inl (cI, 192, .inl cy))]) [1, 2, 0] (by decide) rfl
              exact b_iret S.1 S.2.1 X.2.1 X.2.2.1 hP hD hS ⟨m_traced2_58, tr2_59, (by first | assumption | omega | decide | (rw [show Int32.toInt 0 = 0 from rfl]; omega)), rfl⟩ dX9_markOf_107
            · rw [eq2 (a := kd) (b := 5) (A := kd.toInt) (B := 5) rfl rfl] at c_76
              refine lv_iload_n S.1 S.2.1 dX9_markOf_98 rfl (lv_at hl 0 rfl) ?_
              refine lv_sipush (v := (1000)) S.1 S.2.1 dX9_markOf_99 (by decide) ?_
              refine lv_isub S.1 S.2.1 dX9_markOf_102 ?_
              refine lv_topi (fun x_77 ex_77 => ?_)
              refine lv_goto (tgt := 107) S.1 S.2.1 dX9_markOf_103 (by decide) ?_
              have hP := hP.sub (ws' := [(y, .inr (9, [.int m_thrown, .int m_status, .ref y_lane, .ref y_many, .ref y_item, .ref y_city, .ref y_fresh, .int m_isThere, .ref y_tape, .int m_taped, .int m_latest, .int m_length, .int m_cursor, .int m_token, .int m_start, .int m_till, .int m_fault, .int m_faultAt, .int m_seen, .int m_mirrors, .ref y_cost, .ref y_away, .ref y_fee, .ref y_goesTo, .ref y_priceWas, .ref y_isKept, .ref y_kept, .ref y_trace, .int m_traced2_58])), (y_trace, .inl (cI, 16, .inl tr2_59)), (y_city, .inl (cI, 192, .inl cy))]) [1, 2, 0] rfl
              have hD := hD.sub (ws' := [(y, .inr (9, [.int m_thrown, .int m_status, .ref y_lane, .ref y_many, .ref y_item, .ref y_city, .ref y_fresh, .int m_isThere, .ref y_tape, .int m_taped, .int m_latest, .int m_length, .int m_cursor, .int m_token, .int m_start, .int m_till, .int m_fault, .int m_faultAt, .int m_seen, .int m_mirrors, .ref y_cost, .ref y_away, .ref y_fee, .ref y_goesTo, .ref y_priceWas, .ref y_isKept, .ref y_kept, .ref y_trace, .int m_traced2_58])), (y_trace, .inl (cI, 16, .inl tr2_59)), (y_city, .inl (cI, 192, .inl cy))]) [1, 2, 0] (by decide) rfl
              exact b_iret S.1 S.2.1 X.2.1 X.2.2.1 hP hD hS ⟨m_traced2_58, tr2_59, (by first | assumption | omega | decide | (rw [show Int32.toInt 0 = 0 from rfl]; omega)), rfl⟩ dX9_markOf_107
          · have hf_66 : ¬ (((3) : Int) = 0 ∨ kd.toInt = ((3) : Int) ∨ (((3) : Int) = 3 ∧ kd.toInt = 5) ∨ (((3) : Int) = 2 ∧ (kd.toInt = 3 ∨ kd.toInt = 4 ∨ kd.toInt = 5))) := hf_66
            have hP : va_P D vwCl [(y_city, .inl (cI, 192, .inl cy)), (y, .inr (9, [.int m_thrown, .int m_status, .ref y_lane, .ref y_many, .ref y_item, .ref y_city, .ref y_fresh, .int m_isThere, .ref y_tape, .int m_taped, .int m_latest, .int m_length, .int m_cursor, .int m_token, .int m_start, .int m_till, .int m_fault, .int m_faultAt, .int m_seen, .int m_mirrors, .ref y_cost, .ref y_away, .ref y_fee, .ref y_goesTo, .ref y_priceWas, .ref y_isKept, .ref y_kept, .ref y_trace, .int m_traced2_58])), (y_trace, .inl (cI, 16, .inl tr2_59))] H := hP
            have hD : va_D A [(y_city, .inl (cI, 192, .inl cy)), (y, .inr (9, [.int m_thrown, .int m_status, .ref y_lane, .ref y_many, .ref y_item, .ref y_city, .ref y_fresh, .int m_isThere, .ref y_tape, .int m_taped, .int m_latest, .int m_length, .int m_cursor, .int m_token, .int m_start, .int m_till, .int m_fault, .int m_faultAt, .int m_seen, .int m_mirrors, .ref y_cost, .ref y_away, .ref y_fee, .ref y_goesTo, .ref y_priceWas, .ref y_isKept, .ref y_kept, .ref y_trace, .int m_traced2_58])), (y_trace, .inl (cI, 16, .inl tr2_59))] := hD
            refine lv_if_eq (tgt := 91) S.1 S.2.1 dX9_markOf_64 (by decide) (fun c_78 => ?_) (fun c_78 => absurd c_78 (by decide))
            refine lv_iload_n S.1 S.2.1 dX9_markOf_91 rfl (lv_at hl 1 rfl) ?_
            refine lv_istore_n (lv' := [(3, .int k), (0, .ref y), (1, .int k), (2, .int kd)]) S.1 S.2.1 dX9_markOf_92 rfl hl (by decide) rfl (fun ls hl => ?_)
            refine lv_iload_n S.1 S.2.1 dX9_markOf_93 rfl (lv_at hl 3 rfl) ?_
            refine lv_iconst (v := (5)) S.1 S.2.1 dX9_markOf_94 (by decide) ?_
            refine lv_icmp_ne (tgt := 106) S.1 S.2.1 dX9_markOf_95 (by decide) (fun c_79 => ?_) (fun c_79 => ?_)
            · rw [eq2 (a := kd) (b := 5) (A := kd.toInt) (B := 5) rfl rfl] at c_79
              refine lv_iload_n S.1 S.2.1 dX9_markOf_106 rfl (lv_at hl 0 rfl) ?_
              have hP := hP.sub (ws' := [(y, .inr (9, [.int m_thrown, .int m_status, .ref y_lane, .ref y_many, .ref y_item, .ref y_city, .ref y_fresh, .int m_isThere, .ref y_tape, .int m_taped, .int m_latest, .int m_length, .int m_cursor, .int m_token, .int m_start, .int m_till, .int m_fault, .int m_faultAt, .int m_seen, .int m_mirrors, .ref y_cost, .ref y_away, .ref y_fee, .ref y_goesTo, .ref y_priceWas, .ref y_isKept, .ref y_kept, .ref y_trace, .int m_traced2_58])), (y_trace, .inl (cI, 16, .inl tr2_59)), (y_city, .inl (cI, 192, .inl cy))]) [1, 2, 0] rfl
              have hD := hD.sub (ws' := [(y, .inr (9, [.int m_thrown, .int m_status, .ref y_lane, .ref y_many, .ref y_item, .ref y_city, .ref y_fresh, .int m_isThere, .ref y_tape, .int m_taped, .int m_latest, .int m_length, .int m_cursor, .int m_token, .int m_start, .int m_till, .int m_fault, .int m_faultAt, .int m_seen, .int m_mirrors, .ref y_cost, .ref y_away, .ref y_fee, .ref y_goesTo, .ref y_priceWas, .ref y_isKept, .ref y_kept, .ref y_trace, .int m_traced2_58])), (y_trace, .inl (cI, 16, .inl tr2_59)), (y_city, .inl (cI, 192, .inl cy))]) [1, 2, 0] (by decide) rfl
              exact b_iret S.1 S.2.1 X.2.1 X.2.2.1 hP hD hS ⟨m_traced2_58, tr2_59, (by first | assumption | omega | decide | (rw [show Int32.toInt 0 = 0 from rfl]; omega)), rfl⟩ dX9_markOf_107
            · rw [eq2 (a := kd) (b := 5) (A := kd.toInt) (B := 5) rfl rfl] at c_79
              refine lv_iload_n S.1 S.2.1 dX9_markOf_98 rfl (lv_at hl 0 rfl) ?_
              refine lv_sipush (v := (1000)) S.1 S.2.1 dX9_markOf_99 (by decide) ?_
              refine lv_isub S.1 S.2.1 dX9_markOf_102 ?_
              refine lv_topi (fun x_80 ex_80 => ?_)
              refine lv_goto (tgt := 107) S.1 S.2.1 dX9_markOf_103 (by decide) ?_
              have hP := hP.sub (ws' := [(y, .inr (9, [.int m_thrown, .int m_status, .ref y_lane, .ref y_many, .ref y_item, .ref y_city, .ref y_fresh, .int m_isThere, .ref y_tape, .int m_taped, .int m_latest, .int m_length, .int m_cursor, .int m_token, .int m_start, .int m_till, .int m_fault, .int m_faultAt, .int m_seen, .int m_mirrors, .ref y_cost, .ref y_away, .ref y_fee, .ref y_goesTo, .ref y_priceWas, .ref y_isKept, .ref y_kept, .ref y_trace, .int m_traced2_58])), (y_trace, .inl (cI, 16, .inl tr2_59)), (y_city, .inl (cI, 192, .inl cy))]) [1, 2, 0] rfl
              have hD := hD.sub (ws' := [(y, .inr (9, [.int m_thrown, .int m_status, .ref y_lane, .ref y_many, .ref y_item, .ref y_city, .ref y_fresh, .int m_isThere, .ref y_tape, .int m_taped, .int m_latest, .int m_length, .int m_cursor, .int m_token, .int m_start, .int m_till, .int m_fault, .int m_faultAt, .int m_seen, .int m_mirrors, .ref y_cost, .ref y_away, .ref y_fee, .ref y_goesTo, .ref y_priceWas, .ref y_isKept, .ref y_kept, .ref y_trace, .int m_traced2_58])), (y_trace, .inl (cI, 16, .inl tr2_59)), (y_city, .inl (cI, 192, .inl cy))]) [1, 2, 0] (by decide) rfl
              exact b_iret S.1 S.2.1 X.2.1 X.2.2.1 hP hD hS ⟨m_traced2_58, tr2_59, (by first | assumption | omega | decide | (rw [show Int32.toInt 0 = 0 from rfl]; omega)), rfl⟩ dX9_markOf_107
        · rw [eq2 (a := kd) (b := 4) (A := kd.toInt) (B := 4) rfl rfl] at c_61
          refine lv_iload_n S.1 S.2.1 dX9_markOf_51 rfl (lv_at hl 1 rfl) ?_
          refine lv_aload_n S.1 S.2.1 dX9_markOf_52 rfl (lv_at hl 0 rfl) ?_
          refine lv_iload_n S.1 S.2.1 dX9_markOf_53 rfl (lv_at hl 1 rfl) ?_
          refine b_ai (wr := []) (b_runV (q0 := 1) (ci := 9) (As := [.int k]) (s_X9_wallSize l D cI cZ cC cS sq H.size y y_trace y_city k m_thrown m_status y_lane y_many y_item y_fresh m_isThere y_tape m_taped m_latest m_length m_cursor m_token m_start m_till m_fault m_faultAt m_seen m_mirrors y_cost y_away y_fee y_goesTo y_priceWas y_isKept y_kept m_traced2_58 tr2_59 cy (by first | assumption | omega | decide | (rw [show Int32.toInt 0 = 0 from rfl]; omega)) (by first | assumption | omega | decide | (rw [show Int32.toInt 0 = 0 from rfl]; omega)) (by first | assumption | omega | decide | (rw [show Int32.toInt 0 = 0 from rfl]; omega))) S gX9_markOf_X9_wallSize rfl hdV_X9_wallSize ⟨Nat.le_of_ble_eq_true rfl, Nat.le_of_ble_eq_true rfl⟩ ⟨Nat.le_of_ble_eq_true rfl, Nat.le_of_ble_eq_true rfl⟩ hK hT hS hA hP hD rfl rfl [1, 2, 0] rfl (by decide) rfl hl.1 rfl (Nat.le_of_ble_eq_true rfl) dX9_markOf_54) hP hD hS hA [1, 2, 0] [] rfl rfl (by decide) (by decide) (fun r_81 w_82 H locs hw_83 hP hD hS => ?_)
          obtain ⟨m_traced2_84, tr2_85, hf_86, rfl⟩ := hw_83
          have hP : va_P D vwCl [(y, .inr (9, [.int m_thrown, .int m_status, .ref y_lane, .ref y_many, .ref y_item, .ref y_city, .ref y_fresh, .int m_isThere, .ref y_tape, .int m_taped, .int m_latest, .int m_length, .int m_cursor, .int m_token, .int m_start, .int m_till, .int m_fault, .int m_faultAt, .int m_seen, .int m_mirrors, .ref y_cost, .ref y_away, .ref y_fee, .ref y_goesTo, .ref y_priceWas, .ref y_isKept, .ref y_kept, .ref y_trace, .int m_traced2_84])), (y_trace, .inl (cI, 16, .inl tr2_85)), (y_city, .inl (cI, 192, .inl cy))] H := hP
          have hD : va_D A [(y, .inr (9, [.int m_thrown, .int m_status, .ref y_lane, .ref y_many, .ref y_item, .ref y_city, .ref y_fresh, .int m_isThere, .ref y_tape, .int m_taped, .int m_latest, .int m_length, .int m_cursor, .int m_token, .int m_start, .int m_till, .int m_fault, .int m_faultAt, .int m_seen, .int m_mirrors, .ref y_cost, .ref y_away, .ref y_fee, .ref y_goesTo, .ref y_priceWas, .ref y_isKept, .ref y_kept, .ref y_trace, .int m_traced2_84])), (y_trace, .inl (cI, 16, .inl tr2_85)), (y_city, .inl (cI, 192, .inl cy))] := hD
          refine lv_iadd S.1 S.2.1 dX9_markOf_57 ?_
          refine lv_topi (fun x_87 ex_87 => ?_)
          exact b_iret S.1 S.2.1 X.2.1 X.2.2.1 hP hD hS ⟨m_traced2_84, tr2_85, (by first | assumption | omega | decide | (rw [show Int32.toInt 0 = 0 from rfl]; omega)), rfl⟩ dX9_markOf_58
    · rw [eq2 (a := kd) (b := 5) (A := kd.toInt) (B := 5) rfl rfl] at c_2
      refine lv_bipush (v := (23)) S.1 S.2.1 dX9_markOf_16 (by decide) ?_
      refine lv_goto (tgt := 23) S.1 S.2.1 dX9_markOf_18 (by decide) ?_
      refine b_av (wr := [(y_city, .inl (cI, 192, .inl cy))]) (b_runV (q0 := 0) (ci := 9) (As := [.int 23]) (s_X9_began l D cI cZ cC cS sq H.size y y_trace (23) m_thrown m_status y_lane y_many y_item y_city y_fresh m_isThere y_tape m_taped m_latest m_length m_cursor m_token m_start m_till m_fault m_faultAt m_seen m_mirrors y_cost y_away y_fee y_goesTo y_priceWas y_isKept y_kept m_traced tr (by first | assumption | omega | decide | (rw [show Int32.toInt 0 = 0 from rfl]; omega))) S gX9_markOf_X9_began rfl hdV_X9_began ⟨Nat.le_of_ble_eq_true rfl, Nat.le_of_ble_eq_true rfl⟩ ⟨Nat.le_of_ble_eq_true rfl, Nat.le_of_ble_eq_true rfl⟩ hK hT hS hA hP hD rfl rfl [0, 1] rfl (by decide) rfl hl.1 rfl (Nat.le_of_ble_eq_true rfl) dX9_markOf_23) hP hD hS hA [0, 1] [2] rfl rfl (by decide) (by decide) (fun w_89 H locs hw_90 hP hD hS => ?_)
      obtain ⟨m_traced2_91, tr2_92, hf_93, rfl⟩ := hw_90
      have hP : va_P D vwCl [(y_city, .inl (cI, 192, .inl cy)), (y, .inr (9, [.int m_thrown, .int m_status, .ref y_lane, .ref y_many, .ref y_item, .ref y_city, .ref y_fresh, .int m_isThere, .ref y_tape, .int m_taped, .int m_latest, .int m_length, .int m_cursor, .int m_token, .int m_start, .int m_till, .int m_fault, .int m_faultAt, .int m_seen, .int m_mirrors, .ref y_cost, .ref y_away, .ref y_fee, .ref y_goesTo, .ref y_priceWas, .ref y_isKept, .ref y_kept, .ref y_trace, .int m_traced2_91])), (y_trace, .inl (cI, 16, .inl tr2_92))] H := hP
      have hD : va_D A [(y_city, .inl (cI, 192, .inl cy)), (y, .inr (9, [.int m_thrown, .int m_status, .ref y_lane, .ref y_many, .ref y_item, .ref y_city, .ref y_fresh, .int m_isThere, .ref y_tape, .int m_taped, .int m_latest, .int m_length, .int m_cursor, .int m_token, .int m_start, .int m_till, .int m_fault, .int m_faultAt, .int m_seen, .int m_mirrors, .ref y_cost, .ref y_away, .ref y_fee, .ref y_goesTo, .ref y_priceWas, .ref y_isKept, .ref y_kept, .ref y_trace, .int m_traced2_91])), (y_trace, .inl (cI, 16, .inl tr2_92))] := hD
      refine lv_iload_n S.1 S.2.1 dX9_markOf_26 rfl (lv_at hl 2 rfl) ?_
      refine lv_iconst (v := (3)) S.1 S.2.1 dX9_markOf_27 (by decide) ?_
      refine b_ai (wr := [(y_city, .inl (cI, 192, .inl cy)), (y, .inr (9, [.int m_thrown, .int m_status, .ref y_lane, .ref y_many, .ref y_item, .ref y_city, .ref y_fresh, .int m_isThere, .ref y_tape, .int m_taped, .int m_latest, .int m_length, .int m_cursor, .int m_token, .int m_start, .int m_till, .int m_fault, .int m_faultAt, .int m_seen, .int m_mirrors, .ref y_cost, .ref y_away, .ref y_fee, .ref y_goesTo, .ref y_priceWas, .ref y_isKept, .ref y_kept, .ref y_trace, .int m_traced2_91])), (y_trace, .inl (cI, 16, .inl tr2_92))]) (b_runS (As := [.int kd, .int 3]) (s_X9_isOf2 l D cI cZ cC cS sq H.size kd (3)) S gX9_markOf_X9_isOf rfl hdS_X9_isOf ⟨Nat.le_of_ble_eq_true rfl, Nat.le_of_ble_eq_true rfl⟩ ⟨Nat.le_of_ble_eq_true rfl, Nat.le_of_ble_eq_true rfl⟩ hK hT hS hA hP hD [] rfl (by decide) rfl hl.1 rfl (Nat.le_of_ble_eq_true rfl) dX9_markOf_28) hP hD hS hA [] [0, 1, 2] rfl rfl (by decide) (by decide) (fun r_94 w_95 H locs hw_96 hP hD hS => ?_)
      rcases hw_96 with ⟨hf_97, rfl, rfl⟩ | ⟨hf_98, rfl, rfl⟩
      · have hf_97 : ((3) : Int) = 0 ∨ kd.toInt = ((3) : Int) ∨ (((3) : Int) = 3 ∧ kd.toInt = 5) ∨ (((3) : Int) = 2 ∧ (kd.toInt = 3 ∨ kd.toInt = 4 ∨ kd.toInt = 5)) := hf_97
        have hP : va_P D vwCl [(y_city, .inl (cI, 192, .inl cy)), (y, .inr (9, [.int m_thrown, .int m_status, .ref y_lane, .ref y_many, .ref y_item, .ref y_city, .ref y_fresh, .int m_isThere, .ref y_tape, .int m_taped, .int m_latest, .int m_length, .int m_cursor, .int m_token, .int m_start, .int m_till, .int m_fault, .int m_faultAt, .int m_seen, .int m_mirrors, .ref y_cost, .ref y_away, .ref y_fee, .ref y_goesTo, .ref y_priceWas, .ref y_isKept, .ref y_kept, .ref y_trace, .int m_traced2_91])), (y_trace, .inl (cI, 16, .inl tr2_92))] H := hP
        have hD : va_D A [(y_city, .inl (cI, 192, .inl cy)), (y, .inr (9, [.int m_thrown, .int m_status, .ref y_lane, .ref y_many, .ref y_item, .ref y_city, .ref y_fresh, .int m_isThere, .ref y_tape, .int m_taped, .int m_latest, .int m_length, .int m_cursor, .int m_token, .int m_start, .int m_till, .int m_fault, .int m_faultAt, .int m_seen, .int m_mirrors, .ref y_cost, .ref y_away, .ref y_fee, .ref y_goesTo, .ref y_priceWas, .ref y_isKept, .ref y_kept, .ref y_trace, .int m_traced2_91])), (y_trace, .inl (cI, 16, .inl tr2_92))] := hD
        refine lv_if_eq (tgt := 40) S.1 S.2.1 dX9_markOf_31 (by decide) (fun c_99 => absurd c_99 (by decide)) (fun c_99 => ?_)
        refine lv_aload_n S.1 S.2.1 dX9_markOf_34 rfl (lv_at hl 0 rfl) ?_
        refine lv_bipush (v := (21)) S.1 S.2.1 dX9_markOf_35 (by decide) ?_
        refine b_av (wr := [(y_city, .inl (cI, 192, .inl cy))]) (b_runV (q0 := 1) (ci := 9) (As := [.int 21]) (s_X9_began l D cI cZ cC cS sq H.size y y_trace (21) m_thrown m_status y_lane y_many y_item y_city y_fresh m_isThere y_tape m_taped m_latest m_length m_cursor m_token m_start m_till m_fault m_faultAt m_seen m_mirrors y_cost y_away y_fee y_goesTo y_priceWas y_isKept y_kept m_traced2_91 tr2_92 (by first | assumption | omega | decide | (rw [show Int32.toInt 0 = 0 from rfl]; omega))) S gX9_markOf_X9_began rfl hdV_X9_began ⟨Nat.le_of_ble_eq_true rfl, Nat.le_of_ble_eq_true rfl⟩ ⟨Nat.le_of_ble_eq_true rfl, Nat.le_of_ble_eq_true rfl⟩ hK hT hS hA hP hD rfl rfl [1, 2] rfl (by decide) rfl hl.1 rfl (Nat.le_of_ble_eq_true rfl) dX9_markOf_37) hP hD hS hA [1, 2] [0] rfl rfl (by decide) (by decide) (fun w_101 H locs hw_102 hP hD hS => ?_)
        obtain ⟨m_traced2_103, tr2_104, hf_105, rfl⟩ := hw_102
        have hP : va_P D vwCl [(y_city, .inl (cI, 192, .inl cy)), (y, .inr (9, [.int m_thrown, .int m_status, .ref y_lane, .ref y_many, .ref y_item, .ref y_city, .ref y_fresh, .int m_isThere, .ref y_tape, .int m_taped, .int m_latest, .int m_length, .int m_cursor, .int m_token, .int m_start, .int m_till, .int m_fault, .int m_faultAt, .int m_seen, .int m_mirrors, .ref y_cost, .ref y_away, .ref y_fee, .ref y_goesTo, .ref y_priceWas, .ref y_isKept, .ref y_kept, .ref y_trace, .int m_traced2_103])), (y_trace, .inl (cI, 16, .inl tr2_104))] H := hP
        have hD : va_D A [(y_city, .inl (cI, 192, .inl cy)), (y, .inr (9, [.int m_thrown, .int m_status, .ref y_lane, .ref y_many, .ref y_item, .ref y_city, .ref y_fresh, .int m_isThere, .ref y_tape, .int m_taped, .int m_latest, .int m_length, .int m_cursor, .int m_token, .int m_start, .int m_till, .int m_fault, .int m_faultAt, .int m_seen, .int m_mirrors, .ref y_cost, .ref y_away, .ref y_fee, .ref y_goesTo, .ref y_priceWas, .ref y_isKept, .ref y_kept, .ref y_trace, .int m_traced2_103])), (y_trace, .inl (cI, 16, .inl tr2_104))] := hD
        refine lv_aload_n S.1 S.2.1 dX9_markOf_40 rfl (lv_at hl 0 rfl) ?_
        refine lv_bipush (v := (20)) S.1 S.2.1 dX9_markOf_41 (by decide) ?_
        refine b_av (wr := [(y_city, .inl (cI, 192, .inl cy))]) (b_runV (q0 := 1) (ci := 9) (As := [.int 20]) (s_X9_began l D cI cZ cC cS sq H.size y y_trace (20) m_thrown m_status y_lane y_many y_item y_city y_fresh m_isThere y_tape m_taped m_latest m_length m_cursor m_token m_start m_till m_fault m_faultAt m_seen m_mirrors y_cost y_away y_fee y_goesTo y_priceWas y_isKept y_kept m_traced2_103 tr2_104 (by first | assumption | omega | decide | (rw [show Int32.toInt 0 = 0 from rfl]; omega))) S gX9_markOf_X9_began rfl hdV_X9_began ⟨Nat.le_of_ble_eq_true rfl, Nat.le_of_ble_eq_true rfl⟩ ⟨Nat.le_of_ble_eq_true rfl, Nat.le_of_ble_eq_true rfl⟩ hK hT hS hA hP hD rfl rfl [1, 2] rfl (by decide) rfl hl.1 rfl (Nat.le_of_ble_eq_true rfl) dX9_markOf_43) hP hD hS hA [1, 2] [0] rfl rfl (by decide) (by decide) (fun w_107 H locs hw_108 hP hD hS => ?_)
        obtain ⟨m_traced2_109, tr2_110, hf_111, rfl⟩ := hw_108
        have hP : va_P D vwCl [(y_city, .inl (cI, 192, .inl cy)), (y, .inr (9, [.int m_thrown, .int m_status, .ref y_lane, .ref y_many, .ref y_item, .ref y_city, .ref y_fresh, .int m_isThere, .ref y_tape, .int m_taped, .int m_latest, .int m_length, .int m_cursor, .int m_token, .int m_start, .int m_till, .int m_fault, .int m_faultAt, .int m_seen, .int m_mirrors, .ref y_cost, .ref y_away, .ref y_fee, .ref y_goesTo, .ref y_priceWas, .ref y_isKept, .ref y_kept, .ref y_trace, .int m_traced2_109])), (y_trace, .inl (cI, 16, .inl tr2_110))] H := hP
        have hD : va_D A [(y_city, .inl (cI, 192, .inl cy)), (y, .inr (9, [.int m_thrown, .int m_status, .ref y_lane, .ref y_many, .ref y_item, .ref y_city, .ref y_fresh, .int m_isThere, .ref y_tape, .int m_taped, .int m_latest, .int m_length, .int m_cursor, .int m_token, .int m_start, .int m_till, .int m_fault, .int m_faultAt, .int m_seen, .int m_mirrors, .ref y_cost, .ref y_away, .ref y_fee, .ref y_goesTo, .ref y_priceWas, .ref y_isKept, .ref y_kept, .ref y_trace, .int m_traced2_109])), (y_trace, .inl (cI, 16, .inl tr2_110))] := hD
        refine lv_iload_n S.1 S.2.1 dX9_markOf_46 rfl (lv_at hl 2 rfl) ?_
        refine lv_iconst (v := (4)) S.1 S.2.1 dX9_markOf_47 (by decide) ?_
        refine lv_icmp_ne (tgt := 59) S.1 S.2.1 dX9_markOf_48 (by decide) (fun c_112 => ?_) (fun c_112 => ?_)
        · rw [eq2 (a := kd) (b := 4) (A := kd.toInt) (B := 4) rfl rfl] at c_112
          refine lv_iload_n S.1 S.2.1 dX9_markOf_59 rfl (lv_at hl 2 rfl) ?_
          refine lv_iconst (v := (3)) S.1 S.2.1 dX9_markOf_60 (by decide) ?_
          refine b_ai (wr := [(y_city, .inl (cI, 192, .inl cy)), (y, .inr (9, [.int m_thrown, .int m_status, .ref y_lane, .ref y_many, .ref y_item, .ref y_city, .ref y_fresh, .int m_isThere, .ref y_tape, .int m_taped, .int m_latest, .int m_length, .int m_cursor, .int m_token, .int m_start, .int m_till, .int m_fault, .int m_faultAt, .int m_seen, .int m_mirrors, .ref y_cost, .ref y_away, .ref y_fee, .ref y_goesTo, .ref y_priceWas, .ref y_isKept, .ref y_kept, .ref y_trace, .int m_traced2_109])), (y_trace, .inl (cI, 16, .inl tr2_110))]) (b_runS (As := [.int kd, .int 3]) (s_X9_isOf2 l D cI cZ cC cS sq H.size kd (3)) S gX9_markOf_X9_isOf rfl hdS_X9_isOf ⟨Nat.le_of_ble_eq_true rfl, Nat.le_of_ble_eq_true rfl⟩ ⟨Nat.le_of_ble_eq_true rfl, Nat.le_of_ble_eq_true rfl⟩ hK hT hS hA hP hD [] rfl (by decide) rfl hl.1 rfl (Nat.le_of_ble_eq_true rfl) dX9_markOf_61) hP hD hS hA [] [0, 1, 2] rfl rfl (by decide) (by decide) (fun r_113 w_114 H locs hw_115 hP hD hS => ?_)
          rcases hw_115 with ⟨hf_116, rfl, rfl⟩ | ⟨hf_117, rfl, rfl⟩
          · have hf_116 : ((3) : Int) = 0 ∨ kd.toInt = ((3) : Int) ∨ (((3) : Int) = 3 ∧ kd.toInt = 5) ∨ (((3) : Int) = 2 ∧ (kd.toInt = 3 ∨ kd.toInt = 4 ∨ kd.toInt = 5)) := hf_116
            have hP : va_P D vwCl [(y_city, .inl (cI, 192, .inl cy)), (y, .inr (9, [.int m_thrown, .int m_status, .ref y_lane, .ref y_many, .ref y_item, .ref y_city, .ref y_fresh, .int m_isThere, .ref y_tape, .int m_taped, .int m_latest, .int m_length, .int m_cursor, .int m_token, .int m_start, .int m_till, .int m_fault, .int m_faultAt, .int m_seen, .int m_mirrors, .ref y_cost, .ref y_away, .ref y_fee, .ref y_goesTo, .ref y_priceWas, .ref y_isKept, .ref y_kept, .ref y_trace, .int m_traced2_109])), (y_trace, .inl (cI, 16, .inl tr2_110))] H := hP
            have hD : va_D A [(y_city, .inl (cI, 192, .inl cy)), (y, .inr (9, [.int m_thrown, .int m_status, .ref y_lane, .ref y_many, .ref y_item, .ref y_city, .ref y_fresh, .int m_isThere, .ref y_tape, .int m_taped, .int m_latest, .int m_length, .int m_cursor, .int m_token, .int m_start, .int m_till, .int m_fault, .int m_faultAt, .int m_seen, .int m_mirrors, .ref y_cost, .ref y_away, .ref y_fee, .ref y_goesTo, .ref y_priceWas, .ref y_isKept, .ref y_kept, .ref y_trace, .int m_traced2_109])), (y_trace, .inl (cI, 16, .inl tr2_110))] := hD
            refine lv_if_eq (tgt := 91) S.1 S.2.1 dX9_markOf_64 (by decide) (fun c_118 => absurd c_118 (by decide)) (fun c_118 => ?_)
            refine lv_iload_n S.1 S.2.1 dX9_markOf_67 rfl (lv_at hl 1 rfl) ?_
            refine lv_bipush (v := (100)) S.1 S.2.1 dX9_markOf_68 (by decide) ?_
            refine lv_aload_n S.1 S.2.1 dX9_markOf_70 rfl (lv_at hl 0 rfl) ?_
            refine b_get (v := .ref y_city) S iX9 hK hP 1 rfl rfl 5 (by decide) (by decide +kernel) rfl dX9_markOf_71 ?_
            refine lv_bipush (v := (84)) S.1 S.2.1 dX9_markOf_74 (by decide) ?_
            refine lv_aload_n S.1 S.2.1 dX9_markOf_76 rfl (lv_at hl 0 rfl) ?_
            refine b_get (v := .ref y_city) S iX9 hK hP 1 rfl rfl 5 (by decide) (by decide +kernel) rfl dX9_markOf_77 ?_
            refine lv_iconst (v := (4)) S.1 S.2.1 dX9_markOf_80 (by decide) ?_
            refine lv_iload_n S.1 S.2.1 dX9_markOf_81 rfl (lv_at hl 1 rfl) ?_
            refine lv_iadd S.1 S.2.1 dX9_markOf_82 ?_
            refine lv_topi (fun x_119 ex_119 => ?_)
            have tx_119 : x_119.toInt = 4 + (k.toInt) := addI (A := 4) (B := k.toInt) ex_119 rfl rfl (by omega) (by omega)
            have hin_120 : vp_in x_119 192 := (in_of (n := 192) (by omega) (by omega))
            refine va_iald S.1 S.2.1 hK.1 hP 0 0 rfl rfl hin_120 dX9_markOf_83 ?_
            refine lv_topi (fun x_121 ex_121 => ?_)
            have tx_121 := cyg_A (x := x_121) (show prd cyK 192 cy by assumption) (by omega) ex_121
            have bx_121 : x_121.toInt = (cy (4 + k.toInt.toNat)).toInt := by rw [ex_121, show (x_119).toNatClampNeg = 4 + k.toInt.toNat from by show (x_119).toInt.toNat = _; omega]
            refine lv_iadd S.1 S.2.1 dX9_markOf_84 ?_
            refine lv_topi (fun x_122 ex_122 => ?_)
            have tx_122 : x_122.toInt = 84 + (x_121.toInt) := addI (A := 84) (B := x_121.toInt) ex_122 rfl rfl (by omega) (by omega)
            have hin_123 : vp_in x_122 192 := (in_of (n := 192) (by omega) (by omega))
            refine va_iald S.1 S.2.1 hK.1 hP 0 0 rfl rfl hin_123 dX9_markOf_85 ?_
            refine lv_topi (fun x_124 ex_124 => ?_)
            have tx_124 := cyg_P (x := x_124) (show prd cyK 192 cy by assumption) (by omega) ex_124
            refine lv_imul S.1 S.2.1 dX9_markOf_86 ?_
            refine lv_topi (fun x_125 ex_125 => ?_)
            refine lv_iadd S.1 S.2.1 dX9_markOf_87 ?_
            refine lv_topi (fun x_126 ex_126 => ?_)
            refine lv_goto (tgt := 92) S.1 S.2.1 dX9_markOf_88 (by decide) ?_
            refine lv_istore_n (lv' := [(3, .int x_126), (0, .ref y), (1, .int k), (2, .int kd)]) S.1 S.2.1 dX9_markOf_92 rfl hl (by decide) rfl (fun ls hl => ?_)
            refine lv_iload_n S.1 S.2.1 dX9_markOf_93 rfl (lv_at hl 3 rfl) ?_
            refine lv_iconst (v := (5)) S.1 S.2.1 dX9_markOf_94 (by decide) ?_
            refine lv_icmp_ne (tgt := 106) S.1 S.2.1 dX9_markOf_95 (by decide) (fun c_127 => ?_) (fun c_127 => ?_)
            · rw [eq2 (a := kd) (b := 5) (A := kd.toInt) (B := 5) rfl rfl] at c_127
              refine lv_iload_n S.1 S.2.1 dX9_markOf_106 rfl (lv_at hl 0 rfl) ?_
              have hP := hP.sub (ws' := [(y, .inr (9, [.int m_thrown, .int m_status, .ref y_lane, .ref y_many, .ref y_item, .ref y_city, .ref y_fresh, .int m_isThere, .ref y_tape, .int m_taped, .int m_latest, .int m_length, .int m_cursor, .int m_token, .int m_start, .int m_till, .int m_fault, .int m_faultAt, .int m_seen, .int m_mirrors, .ref y_cost, .ref y_away, .ref y_fee, .ref y_goesTo, .ref y_priceWas, .ref y_isKept, .ref y_kept, .ref y_trace, .int m_traced2_109])), (y_trace, .inl (cI, 16, .inl tr2_110)), (y_city, .inl (cI, 192, .inl cy))]) [1, 2, 0] rfl
              have hD := hD.sub (ws' := [(y, .inr (9, [.int m_thrown, .int m_status, .ref y_lane, .ref y_many, .ref y_item, .ref y_city, .ref y_fresh, .int m_isThere, .ref y_tape, .int m_taped, .int m_latest, .int m_length, .int m_cursor, .int m_token, .int m_start, .int m_till, .int m_fault, .int m_faultAt, .int m_seen, .int m_mirrors, .ref y_cost, .ref y_away, .ref y_fee, .ref y_goesTo, .ref y_priceWas, .ref y_isKept, .ref y_kept, .ref y_trace, .int m_traced2_109])), (y_trace, .inl (cI, 16, .inl tr2_110)), (y_city, .inl (cI, 192, .inl cy))]) [1, 2, 0] (by decide) rfl
              exact b_iret S.1 S.2.1 X.2.1 X.2.2.1 hP hD hS ⟨m_traced2_109, tr2_110, (by first | assumption | omega | decide | (rw [show Int32.toInt 0 = 0 from rfl]; omega)), rfl⟩ dX9_markOf_107
            · rw [eq2 (a := kd) (b := 5) (A := kd.toInt) (B := 5) rfl rfl] at c_127
              refine lv_iload_n S.1 S.2.1 dX9_markOf_98 rfl (lv_at hl 0 rfl) ?_
              refine lv_sipush (v := (1000)) S.1 S.2.1 dX9_markOf_99 (by decide) ?_
              refine lv_isub S.1 S.2.1 dX9_markOf_102 ?_
              refine lv_topi (fun x_128 ex_128 => ?_)
              refine lv_goto (tgt := 107) S.1 S.2.1 dX9_markOf_103 (by decide) ?_
              have hP := hP.sub (ws' := [(y, .inr (9, [.int m_thrown, .int m_status, .ref y_lane, .ref y_many, .ref y_item, .ref y_city, .ref y_fresh, .int m_isThere, .ref y_tape, .int m_taped, .int m_latest, .int m_length, .int m_cursor, .int m_token, .int m_start, .int m_till, .int m_fault, .int m_faultAt, .int m_seen, .int m_mirrors, .ref y_cost, .ref y_away, .ref y_fee, .ref y_goesTo, .ref y_priceWas, .ref y_isKept, .ref y_kept, .ref y_trace, .int m_traced2_109])), (y_trace, .inl (cI, 16, .inl tr2_110)), (y_city, .inl (cI, 192, .inl cy))]) [1, 2, 0] rfl
              have hD := hD.sub (ws' := [(y, .inr (9, [.int m_thrown, .int m_status, .ref y_lane, .ref y_many, .ref y_item, .ref y_city, .ref y_fresh, .int m_isThere, .ref y_tape, .int m_taped, .int m_latest, .int m_length, .int m_cursor, .int m_token, .int m_start, .int m_till, .int m_fault, .int m_faultAt, .int m_seen, .int m_mirrors, .ref y_cost, .ref y_away, .ref y_fee, .ref y_goesTo, .ref y_priceWas, .ref y_isKept, .ref y_kept, .ref y_trace, .int m_traced2_109])), (y_trace, .inl (cI, 16, .inl tr2_110)), (y_city, .inl (cI, 192, .inl cy))]) [1, 2, 0] (by decide) rfl
              exact b_iret S.1 S.2.1 X.2.1 X.2.2.1 hP hD hS ⟨m_traced2_109, tr2_110, (by first | assumption | omega | decide | (rw [show Int32.toInt 0 = 0 from rfl]; omega)), rfl⟩ dX9_markOf_107
          · have hf_117 : ¬ (((3) : Int) = 0 ∨ kd.toInt = ((3) : Int) ∨ (((3) : Int) = 3 ∧ kd.toInt = 5) ∨ (((3) : Int) = 2 ∧ (kd.toInt = 3 ∨ kd.toInt = 4 ∨ kd.toInt = 5))) := hf_117
            have hP : va_P D vwCl [(y_city, .inl (cI, 192, .inl cy)), (y, .inr (9, [.int m_thrown, .int m_status, .ref y_lane, .ref y_many, .ref y_item, .ref y_city, .ref y_fresh, .int m_isThere, .ref y_tape, .int m_taped, .int m_latest, .int m_length, .int m_cursor, .int m_token, .int m_start, .int m_till, .int m_fault, .int m_faultAt, .int m_seen, .int m_mirrors, .ref y_cost, .ref y_away, .ref y_fee, .ref y_goesTo, .ref y_priceWas, .ref y_isKept, .ref y_kept, .ref y_trace, .int m_traced2_109])), (y_trace, .inl (cI, 16, .inl tr2_110))] H := hP
            have hD : va_D A [(y_city, .inl (cI, 192, .inl cy)), (y, .inr (9, [.int m_thrown, .int m_status, .ref y_lane, .ref y_many, .ref y_item, .ref y_city, .ref y_fresh, .int m_isThere, .ref y_tape, .int m_taped, .int m_latest, .int m_length, .int m_cursor, .int m_token, .int m_start, .int m_till, .int m_fault, .int m_faultAt, .int m_seen, .int m_mirrors, .ref y_cost, .ref y_away, .ref y_fee, .ref y_goesTo, .ref y_priceWas, .ref y_isKept, .ref y_kept, .ref y_trace, .int m_traced2_109])), (y_trace, .inl (cI, 16, .inl tr2_110))] := hD
            refine lv_if_eq (tgt := 91) S.1 S.2.1 dX9_markOf_64 (by decide) (fun c_129 => ?_) (fun c_129 => absurd c_129 (by decide))
            refine lv_iload_n S.1 S.2.1 dX9_markOf_91 rfl (lv_at hl 1 rfl) ?_
            refine lv_istore_n (lv' := [(3, .int k), (0, .ref y), (1, .int k), (2, .int kd)]) S.1 S.2.1 dX9_markOf_92 rfl hl (by decide) rfl (fun ls hl => ?_)
            refine lv_iload_n S.1 S.2.1 dX9_markOf_93 rfl (lv_at hl 3 rfl) ?_
            refine lv_iconst (v := (5)) S.1 S.2.1 dX9_markOf_94 (by decide) ?_
            refine lv_icmp_ne (tgt := 106) S.1 S.2.1 dX9_markOf_95 (by decide) (fun c_130 => ?_) (fun c_130 => ?_)
            · rw [eq2 (a := kd) (b := 5) (A := kd.toInt) (B := 5) rfl rfl] at c_130
              refine lv_iload_n S.1 S.2.1 dX9_markOf_106 rfl (lv_at hl 0 rfl) ?_
              have hP := hP.sub (ws' := [(y, .inr (9, [.int m_thrown, .int m_status, .ref y_lane, .ref y_many, .ref y_item, .ref y_city, .ref y_fresh, .int m_isThere, .ref y_tape, .int m_taped, .int m_latest, .int m_length, .int m_cursor, .int m_token, .int m_start, .int m_till, .int m_fault, .int m_faultAt, .int m_seen, .int m_mirrors, .ref y_cost, .ref y_away, .ref y_fee, .ref y_goesTo, .ref y_priceWas, .ref y_isKept, .ref y_kept, .ref y_trace, .int m_traced2_109])), (y_trace, .inl (cI, 16, .inl tr2_110)), (y_city, .inl (cI, 192, .inl cy))]) [1, 2, 0] rfl
              have hD := hD.sub (ws' := [(y, .inr (9, [.int m_thrown, .int m_status, .ref y_lane, .ref y_many, .ref y_item, .ref y_city, .ref y_fresh, .int m_isThere, .ref y_tape, .int m_taped, .int m_latest, .int m_length, .int m_cursor, .int m_token, .int m_start, .int m_till, .int m_fault, .int m_faultAt, .int m_seen, .int m_mirrors, .ref y_cost, .ref y_away, .ref y_fee, .ref y_goesTo, .ref y_priceWas, .ref y_isKept, .ref y_kept, .ref y_trace, .int m_traced2_109])), (y_trace, .inl (cI, 16, .inl tr2_110)), (y_city, .inl (cI, 192, .inl cy))]) [1, 2, 0] (by decide) rfl
              exact b_iret S.1 S.2.1 X.2.1 X.2.2.1 hP hD hS ⟨m_traced2_109, tr2_110, (by first | assumption | omega | decide | (rw [show Int32.toInt 0 = 0 from rfl]; omega)), rfl⟩ dX9_markOf_107
            · rw [eq2 (a := kd) (b := 5) (A := kd.toInt) (B := 5) rfl rfl] at c_130
              refine lv_iload_n S.1 S.2.1 dX9_markOf_98 rfl (lv_at hl 0 rfl) ?_
              refine lv_sipush (v := (1000)) S.1 S.2.1 dX9_markOf_99 (by decide) ?_
              refine lv_isub S.1 S.2.1 dX9_markOf_102 ?_
              refine lv_topi (fun x_131 ex_131 => ?_)
              refine lv_goto (tgt := 107) S.1 S.2.1 dX9_markOf_103 (by decide) ?_
              have hP := hP.sub (ws' := [(y, .inr (9, [.int m_thrown, .int m_status, .ref y_lane, .ref y_many, .ref y_item, .ref y_city, .ref y_fresh, .int m_isThere, .ref y_tape, .int m_taped, .int m_latest, .int m_length, .int m_cursor, .int m_token, .int m_start, .int m_till, .int m_fault, .int m_faultAt, .int m_seen, .int m_mirrors, .ref y_cost, .ref y_away, .ref y_fee, .ref y_goesTo, .ref y_priceWas, .ref y_isKept, .ref y_kept, .ref y_trace, .int m_traced2_109])), (y_trace, .inl (cI, 16, .inl tr2_110)), (y_city, .inl (cI, 192, .inl cy))]) [1, 2, 0] rfl
              have hD := hD.sub (ws' := [(y, .inr (9, [.int m_thrown, .int m_status, .ref y_lane, .ref y_many, .ref y_item, .ref y_city, .ref y_fresh, .int m_isThere, .ref y_tape, .int m_taped, .int m_latest, .int m_length, .int m_cursor, .int m_token, .int m_start, .int m_till, .int m_fault, .int m_faultAt, .int m_seen, .int m_mirrors, .ref y_cost, .ref y_away, .ref y_fee, .ref y_goesTo, .ref y_priceWas, .ref y_isKept, .ref y_kept, .ref y_trace, .int m_traced2_109])), (y_trace, .inl (cI, 16, .inl tr2_110)), (y_city, .inl (cI, 192, .inl cy))]) [1, 2, 0] (by decide) rfl
              exact b_iret S.1 S.2.1 X.2.1 X.2.2.1 hP hD hS ⟨m_traced2_109, tr2_110, (by first | assumption | omega | decide | (rw [show Int32.toInt 0 = 0 from rfl]; omega)), rfl⟩ dX9_markOf_107
        · rw [eq2 (a := kd) (b := 4) (A := kd.toInt) (B := 4) rfl rfl] at c_112
          refine lv_iload_n S.1 S.2.1 dX9_markOf_51 rfl (lv_at hl 1 rfl) ?_
          refine lv_aload_n S.1 S.2.1 dX9_markOf_52 rfl (lv_at hl 0 rfl) ?_
          refine lv_iload_n S.1 S.2.1 dX9_markOf_53 rfl (lv_at hl 1 rfl) ?_
          refine b_ai (wr := []) (b_runV (q0 := 1) (ci := 9) (As := [.int k]) (s_X9_wallSize l D cI cZ cC cS sq H.size y y_trace y_city k m_thrown m_status y_lane y_many y_item y_fresh m_isThere y_tape m_taped m_latest m_length m_cursor m_token m_start m_till m_fault m_faultAt m_seen m_mirrors y_cost y_away y_fee y_goesTo y_priceWas y_isKept y_kept m_traced2_109 tr2_110 cy (by first | assumption | omega | decide | (rw [show Int32.toInt 0 = 0 from rfl]; omega)) (by first | assumption | omega | decide | (rw [show Int32.toInt 0 = 0 from rfl]; omega)) (by first | assumption | omega | decide | (rw [show Int32.toInt 0 = 0 from rfl]; omega))) S gX9_markOf_X9_wallSize rfl hdV_X9_wallSize ⟨Nat.le_of_ble_eq_true rfl, Nat.le_of_ble_eq_true rfl⟩ ⟨Nat.le_of_ble_eq_true rfl, Nat.le_of_ble_eq_true rfl⟩ hK hT hS hA hP hD rfl rfl [1, 2, 0] rfl (by decide) rfl hl.1 rfl (Nat.le_of_ble_eq_true rfl) dX9_markOf_54) hP hD hS hA [1, 2, 0] [] rfl rfl (by decide) (by decide) (fun r_132 w_133 H locs hw_134 hP hD hS => ?_)
          obtain ⟨m_traced2_135, tr2_136, hf_137, rfl⟩ := hw_134
          have hP : va_P D vwCl [(y, .inr (9, [.int m_thrown, .int m_status, .ref y_lane, .ref y_many, .ref y_item, .ref y_city, .ref y_fresh, .int m_isThere, .ref y_tape, .int m_taped, .int m_latest, .int m_length, .int m_cursor, .int m_token, .int m_start, .int m_till, .int m_fault, .int m_faultAt, .int m_seen, .int m_mirrors, .ref y_cost, .ref y_away, .ref y_fee, .ref y_goesTo, .ref y_priceWas, .ref y_isKept, .ref y_kept, .ref y_trace, .int m_traced2_135])), (y_trace, .inl (cI, 16, .inl tr2_136)), (y_city, .inl (cI, 192, .inl cy))] H := hP
          have hD : va_D A [(y, .inr (9, [.int m_thrown, .int m_status, .ref y_lane, .ref y_many, .ref y_item, .ref y_city, .ref y_fresh, .int m_isThere, .ref y_tape, .int m_taped, .int m_latest, .int m_length, .int m_cursor, .int m_token, .int m_start, .int m_till, .int m_fault, .int m_faultAt, .int m_seen, .int m_mirrors, .ref y_cost, .ref y_away, .ref y_fee, .ref y_goesTo, .ref y_priceWas, .ref y_isKept, .ref y_kept, .ref y_trace, .int m_traced2_135])), (y_trace, .inl (cI, 16, .inl tr2_136)), (y_city, .inl (cI, 192, .inl cy))] := hD
          refine lv_iadd S.1 S.2.1 dX9_markOf_57 ?_
          refine lv_topi (fun x_138 ex_138 => ?_)
          exact b_iret S.1 S.2.1 X.2.1 X.2.2.1 hP hD hS ⟨m_traced2_135, tr2_136, (by first | assumption | omega | decide | (rw [show Int32.toInt 0 = 0 from rfl]; omega)), rfl⟩ dX9_markOf_58
      · have hf_98 : ¬ (((3) : Int) = 0 ∨ kd.toInt = ((3) : Int) ∨ (((3) : Int) = 3 ∧ kd.toInt = 5) ∨ (((3) : Int) = 2 ∧ (kd.toInt = 3 ∨ kd.toInt = 4 ∨ kd.toInt = 5))) := hf_98
        have hP : va_P D vwCl [(y_city, .inl (cI, 192, .inl cy)), (y, .inr (9, [.int m_thrown, .int m_status, .ref y_lane, .ref y_many, .ref y_item, .ref y_city, .ref y_fresh, .int m_isThere, .ref y_tape, .int m_taped, .int m_latest, .int m_length, .int m_cursor, .int m_token, .int m_start, .int m_till, .int m_fault, .int m_faultAt, .int m_seen, .int m_mirrors, .ref y_cost, .ref y_away, .ref y_fee, .ref y_goesTo, .ref y_priceWas, .ref y_isKept, .ref y_kept, .ref y_trace, .int m_traced2_91])), (y_trace, .inl (cI, 16, .inl tr2_92))] H := hP
        have hD : va_D A [(y_city, .inl (cI, 192, .inl cy)), (y, .inr (9, [.int m_thrown, .int m_status, .ref y_lane, .ref y_many, .ref y_item, .ref y_city, .ref y_fresh, .int m_isThere, .ref y_tape, .int m_taped, .int m_latest, .int m_length, .int m_cursor, .int m_token, .int m_start, .int m_till, .int m_fault, .int m_faultAt, .int m_seen, .int m_mirrors, .ref y_cost, .ref y_away, .ref y_fee, .ref y_goesTo, .ref y_priceWas, .ref y_isKept, .ref y_kept, .ref y_trace, .int m_traced2_91])), (y_trace, .inl (cI, 16, .inl tr2_92))] := hD
        refine lv_if_eq (tgt := 40) S.1 S.2.1 dX9_markOf_31 (by decide) (fun c_139 => ?_) (fun c_139 => absurd c_139 (by decide))
        refine lv_aload_n S.1 S.2.1 dX9_markOf_40 rfl (lv_at hl 0 rfl) ?_
        refine lv_bipush (v := (20)) S.1 S.2.1 dX9_markOf_41 (by decide) ?_
        refine b_av (wr := [(y_city, .inl (cI, 192, .inl cy))]) (b_runV (q0 := 1) (ci := 9) (As := [.int 20]) (s_X9_began l D cI cZ cC cS sq H.size y y_trace (20) m_thrown m_status y_lane y_many y_item y_city y_fresh m_isThere y_tape m_taped m_latest m_length m_cursor m_token m_start m_till m_fault m_faultAt m_seen m_mirrors y_cost y_away y_fee y_goesTo y_priceWas y_isKept y_kept m_traced2_91 tr2_92 (by first | assumption | omega | decide | (rw [show Int32.toInt 0 = 0 from rfl]; omega))) S gX9_markOf_X9_began rfl hdV_X9_began ⟨Nat.le_of_ble_eq_true rfl, Nat.le_of_ble_eq_true rfl⟩ ⟨Nat.le_of_ble_eq_true rfl, Nat.le_of_ble_eq_true rfl⟩ hK hT hS hA hP hD rfl rfl [1, 2] rfl (by decide) rfl hl.1 rfl (Nat.le_of_ble_eq_true rfl) dX9_markOf_43) hP hD hS hA [1, 2] [0] rfl rfl (by decide) (by decide) (fun w_141 H locs hw_142 hP hD hS => ?_)
        obtain ⟨m_traced2_143, tr2_144, hf_145, rfl⟩ := hw_142
        have hP : va_P D vwCl [(y_city, .inl (cI, 192, .inl cy)), (y, .inr (9, [.int m_thrown, .int m_status, .ref y_lane, .ref y_many, .ref y_item, .ref y_city, .ref y_fresh, .int m_isThere, .ref y_tape, .int m_taped, .int m_latest, .int m_length, .int m_cursor, .int m_token, .int m_start, .int m_till, .int m_fault, .int m_faultAt, .int m_seen, .int m_mirrors, .ref y_cost, .ref y_away, .ref y_fee, .ref y_goesTo, .ref y_priceWas, .ref y_isKept, .ref y_kept, .ref y_trace, .int m_traced2_143])), (y_trace, .inl (cI, 16, .inl tr2_144))] H := hP
        have hD : va_D A [(y_city, .inl (cI, 192, .inl cy)), (y, .inr (9, [.int m_thrown, .int m_status, .ref y_lane, .ref y_many, .ref y_item, .ref y_city, .ref y_fresh, .int m_isThere, .ref y_tape, .int m_taped, .int m_latest, .int m_length, .int m_cursor, .int m_token, .int m_start, .int m_till, .int m_fault, .int m_faultAt, .int m_seen, .int m_mirrors, .ref y_cost, .ref y_away, .ref y_fee, .ref y_goesTo, .ref y_priceWas, .ref y_isKept, .ref y_kept, .ref y_trace, .int m_traced2_143])), (y_trace, .inl (cI, 16, .inl tr2_144))] := hD
        refine lv_iload_n S.1 S.2.1 dX9_markOf_46 rfl (lv_at hl 2 rfl) ?_
        refine lv_iconst (v := (4)) S.1 S.2.1 dX9_markOf_47 (by decide) ?_
        refine lv_icmp_ne (tgt := 59) S.1 S.2.1 dX9_markOf_48 (by decide) (fun c_146 => ?_) (fun c_146 => ?_)
        · rw [eq2 (a := kd) (b := 4) (A := kd.toInt) (B := 4) rfl rfl] at c_146
          refine lv_iload_n S.1 S.2.1 dX9_markOf_59 rfl (lv_at hl 2 rfl) ?_
          refine lv_iconst (v := (3)) S.1 S.2.1 dX9_markOf_60 (by decide) ?_
          refine b_ai (wr := [(y_city, .inl (cI, 192, .inl cy)), (y, .inr (9, [.int m_thrown, .int m_status, .ref y_lane, .ref y_many, .ref y_item, .ref y_city, .ref y_fresh, .int m_isThere, .ref y_tape, .int m_taped, .int m_latest, .int m_length, .int m_cursor, .int m_token, .int m_start, .int m_till, .int m_fault, .int m_faultAt, .int m_seen, .int m_mirrors, .ref y_cost, .ref y_away, .ref y_fee, .ref y_goesTo, .ref y_priceWas, .ref y_isKept, .ref y_kept, .ref y_trace, .int m_traced2_143])), (y_trace, .inl (cI, 16, .inl tr2_144))]) (b_runS (As := [.int kd, .int 3]) (s_X9_isOf2 l D cI cZ cC cS sq H.size kd (3)) S gX9_markOf_X9_isOf rfl hdS_X9_isOf ⟨Nat.le_of_ble_eq_true rfl, Nat.le_of_ble_eq_true rfl⟩ ⟨Nat.le_of_ble_eq_true rfl, Nat.le_of_ble_eq_true rfl⟩ hK hT hS hA hP hD [] rfl (by decide) rfl hl.1 rfl (Nat.le_of_ble_eq_true rfl) dX9_markOf_61) hP hD hS hA [] [0, 1, 2] rfl rfl (by decide) (by decide) (fun r_147 w_148 H locs hw_149 hP hD hS => ?_)
          rcases hw_149 with ⟨hf_150, rfl, rfl⟩ | ⟨hf_151, rfl, rfl⟩
          · have hf_150 : ((3) : Int) = 0 ∨ kd.toInt = ((3) : Int) ∨ (((3) : Int) = 3 ∧ kd.toInt = 5) ∨ (((3) : Int) = 2 ∧ (kd.toInt = 3 ∨ kd.toInt = 4 ∨ kd.toInt = 5)) := hf_150
            have hP : va_P D vwCl [(y_city, .inl (cI, 192, .inl cy)), (y, .inr (9, [.int m_thrown, .int m_status, .ref y_lane, .ref y_many, .ref y_item, .ref y_city, .ref y_fresh, .int m_isThere, .ref y_tape, .int m_taped, .int m_latest, .int m_length, .int m_cursor, .int m_token, .int m_start, .int m_till, .int m_fault, .int m_faultAt, .int m_seen, .int m_mirrors, .ref y_cost, .ref y_away, .ref y_fee, .ref y_goesTo, .ref y_priceWas, .ref y_isKept, .ref y_kept, .ref y_trace, .int m_traced2_143])), (y_trace, .inl (cI, 16, .inl tr2_144))] H := hP
            have hD : va_D A [(y_city, .inl (cI, 192, .inl cy)), (y, .inr (9, [.int m_thrown, .int m_status, .ref y_lane, .ref y_many, .ref y_item, .ref y_city, .ref y_fresh, .int m_isThere, .ref y_tape, .int m_taped, .int m_latest, .int m_length, .int m_cursor, .int m_token, .int m_start, .int m_till, .int m_fault, .int m_faultAt, .int m_seen, .int m_mirrors, .ref y_cost, .ref y_away, .ref y_fee, .ref y_goesTo, .ref y_priceWas, .ref y_isKept, .ref y_kept, .ref y_trace, .int m_traced2_143])), (y_trace, .inl (cI, 16, .inl tr2_144))] := hD
            refine lv_if_eq (tgt := 91) S.1 S.2.1 dX9_markOf_64 (by decide) (fun c_152 => absurd c_152 (by decide)) (fun c_152 => ?_)
            refine lv_iload_n S.1 S.2.1 dX9_markOf_67 rfl (lv_at hl 1 rfl) ?_
            refine lv_bipush (v := (100)) S.1 S.2.1 dX9_markOf_68 (by decide) ?_
            refine lv_aload_n S.1 S.2.1 dX9_markOf_70 rfl (lv_at hl 0 rfl) ?_
            refine b_get (v := .ref y_city) S iX9 hK hP 1 rfl rfl 5 (by decide) (by decide +kernel) rfl dX9_markOf_71 ?_
            refine lv_bipush (v := (84)) S.1 S.2.1 dX9_markOf_74 (by decide) ?_
            refine lv_aload_n S.1 S.2.1 dX9_markOf_76 rfl (lv_at hl 0 rfl) ?_
            refine b_get (v := .ref y_city) S iX9 hK hP 1 rfl rfl 5 (by decide) (by decide +kernel) rfl dX9_markOf_77 ?_
            refine lv_iconst (v := (4)) S.1 S.2.1 dX9_markOf_80 (by decide) ?_
            refine lv_iload_n S.1 S.2.1 dX9_markOf_81 rfl (lv_at hl 1 rfl) ?_
            refine lv_iadd S.1 S.2.1 dX9_markOf_82 ?_
            refine lv_topi (fun x_153 ex_153 => ?_)
            have tx_153 : x_153.toInt = 4 + (k.toInt) := addI (A := 4) (B := k.toInt) ex_153 rfl rfl (by omega) (by omega)
            have hin_154 : vp_in x_153 192 := (in_of (n := 192) (by omega) (by omega))
            refine va_iald S.1 S.2.1 hK.1 hP 0 0 rfl rfl hin_154 dX9_markOf_83 ?_
            refine lv_topi (fun x_155 ex_155 => ?_)
            have tx_155 := cyg_A (x := x_155) (show prd cyK 192 cy by assumption) (by omega) ex_155
            have bx_155 : x_155.toInt = (cy (4 + k.toInt.toNat)).toInt := by rw [ex_155, show (x_153).toNatClampNeg = 4 + k.toInt.toNat from by show (x_153).toInt.toNat = _; omega]
            refine lv_iadd S.1 S.2.1 dX9_markOf_84 ?_
            refine lv_topi (fun x_156 ex_156 => ?_)
            have tx_156 : x_156.toInt = 84 + (x_155.toInt) := addI (A := 84) (B := x_155.toInt) ex_156 rfl rfl (by omega) (by omega)
            have hin_157 : vp_in x_156 192 := (in_of (n := 192) (by omega) (by omega))
            refine va_iald S.1 S.2.1 hK.1 hP 0 0 rfl rfl hin_157 dX9_markOf_85 ?_
            refine lv_topi (fun x_158 ex_158 => ?_)
            have tx_158 := cyg_P (x := x_158) (show prd cyK 192 cy by assumption) (by omega) ex_158
            refine lv_imul S.1 S.2.1 dX9_markOf_86 ?_
            refine lv_topi (fun x_159 ex_159 => ?_)
            refine lv_iadd S.1 S.2.1 dX9_markOf_87 ?_
            refine lv_topi (fun x_160 ex_160 => ?_)
            refine lv_goto (tgt := 92) S.1 S.2.1 dX9_markOf_88 (by decide) ?_
            refine lv_istore_n (lv' := [(3, .int x_160), (0, .ref y), (1, .int k), (2, .int kd)]) S.1 S.2.1 dX9_markOf_92 rfl hl (by decide) rfl (fun ls hl => ?_)
            refine lv_iload_n S.1 S.2.1 dX9_markOf_93 rfl (lv_at hl 3 rfl) ?_
            refine lv_iconst (v := (5)) S.1 S.2.1 dX9_markOf_94 (by decide) ?_
            refine lv_icmp_ne (tgt := 106) S.1 S.2.1 dX9_markOf_95 (by decide) (fun c_161 => ?_) (fun c_161 => ?_)
            · rw [eq2 (a := kd) (b := 5) (A := kd.toInt) (B := 5) rfl rfl] at c_161
              refine lv_iload_n S.1 S.2.1 dX9_markOf_106 rfl (lv_at hl 0 rfl) ?_
              have hP := hP.sub (ws' := [(y, .inr (9, [.int m_thrown, .int m_status, .ref y_lane, .ref y_many, .ref y_item, .ref y_city, .ref y_fresh, .int m_isThere, .ref y_tape, .int m_taped, .int m_latest, .int m_length, .int m_cursor, .int m_token, .int m_start, .int m_till, .int m_fault, .int m_faultAt, .int m_seen, .int m_mirrors, .ref y_cost, .ref y_away, .ref y_fee, .ref y_goesTo, .ref y_priceWas, .ref y_isKept, .ref y_kept, .ref y_trace, .int m_traced2_143])), (y_trace, .inl (cI, 16, .inl tr2_144)), (y_city, .inl (cI, 192, .inl cy))]) [1, 2, 0] rfl
              have hD := hD.sub (ws' := [(y, .inr (9, [.int m_thrown, .int m_status, .ref y_lane, .ref y_many, .ref y_item, .ref y_city, .ref y_fresh, .int m_isThere, .ref y_tape, .int m_taped, .int m_latest, .int m_length, .int m_cursor, .int m_token, .int m_start, .int m_till, .int m_fault, .int m_faultAt, .int m_seen, .int m_mirrors, .ref y_cost, .ref y_away, .ref y_fee, .ref y_goesTo, .ref y_priceWas, .ref y_isKept, .ref y_kept, .ref y_trace, .int m_traced2_143])), (y_trace, .inl (cI, 16, .inl tr2_144)), (y_city, .inl (cI, 192, .inl cy))]) [1, 2, 0] (by decide) rfl
              exact b_iret S.1 S.2.1 X.2.1 X.2.2.1 hP hD hS ⟨m_traced2_143, tr2_144, (by first | assumption | omega | decide | (rw [show Int32.toInt 0 = 0 from rfl]; omega)), rfl⟩ dX9_markOf_107
            · rw [eq2 (a := kd) (b := 5) (A := kd.toInt) (B := 5) rfl rfl] at c_161
              refine lv_iload_n S.1 S.2.1 dX9_markOf_98 rfl (lv_at hl 0 rfl) ?_
              refine lv_sipush (v := (1000)) S.1 S.2.1 dX9_markOf_99 (by decide) ?_
              refine lv_isub S.1 S.2.1 dX9_markOf_102 ?_
              refine lv_topi (fun x_162 ex_162 => ?_)
              refine lv_goto (tgt := 107) S.1 S.2.1 dX9_markOf_103 (by decide) ?_
              have hP := hP.sub (ws' := [(y, .inr (9, [.int m_thrown, .int m_status, .ref y_lane, .ref y_many, .ref y_item, .ref y_city, .ref y_fresh, .int m_isThere, .ref y_tape, .int m_taped, .int m_latest, .int m_length, .int m_cursor, .int m_token, .int m_start, .int m_till, .int m_fault, .int m_faultAt, .int m_seen, .int m_mirrors, .ref y_cost, .ref y_away, .ref y_fee, .ref y_goesTo, .ref y_priceWas, .ref y_isKept, .ref y_kept, .ref y_trace, .int m_traced2_143])), (y_trace, .inl (cI, 16, .inl tr2_144)), (y_city, .inl (cI, 192, .inl cy))]) [1, 2, 0] rfl
              have hD := hD.sub (ws' := [(y, .inr (9, [.int m_thrown, .int m_status, .ref y_lane, .ref y_many, .ref y_item, .ref y_city, .ref y_fresh, .int m_isThere, .ref y_tape, .int m_taped, .int m_latest, .int m_length, .int m_cursor, .int m_token, .int m_start, .int m_till, .int m_fault, .int m_faultAt, .int m_seen, .int m_mirrors, .ref y_cost, .ref y_away, .ref y_fee, .ref y_goesTo, .ref y_priceWas, .ref y_isKept, .ref y_kept, .ref y_trace, .int m_traced2_143])), (y_trace, .inl (cI, 16, .inl tr2_144)), (y_city, .inl (cI, 192, .inl cy))]) [1, 2, 0] (by decide) rfl
              exact b_iret S.1 S.2.1 X.2.1 X.2.2.1 hP hD hS ⟨m_traced2_143, tr2_144, (by first | assumption | omega | decide | (rw [show Int32.toInt 0 = 0 from rfl]; omega)), rfl⟩ dX9_markOf_107
          · have hf_151 : ¬ (((3) : Int) = 0 ∨ kd.toInt = ((3) : Int) ∨ (((3) : Int) = 3 ∧ kd.toInt = 5) ∨ (((3) : Int) = 2 ∧ (kd.toInt = 3 ∨ kd.toInt = 4 ∨ kd.toInt = 5))) := hf_151
            have hP : va_P D vwCl [(y_city, .inl (cI, 192, .inl cy)), (y, .inr (9, [.int m_thrown, .int m_status, .ref y_lane, .ref y_many, .ref y_item, .ref y_city, .ref y_fresh, .int m_isThere, .ref y_tape, .int m_taped, .int m_latest, .int m_length, .int m_cursor, .int m_token, .int m_start, .int m_till, .int m_fault, .int m_faultAt, .int m_seen, .int m_mirrors, .ref y_cost, .ref y_away, .ref y_fee, .ref y_goesTo, .ref y_priceWas, .ref y_isKept, .ref y_kept, .ref y_trace, .int m_traced2_143])), (y_trace, .inl (cI, 16, .inl tr2_144))] H := hP
            have hD : va_D A [(y_city, .inl (cI, 192, .inl cy)), (y, .inr (9, [.int m_thrown, .int m_status, .ref y_lane, .ref y_many, .ref y_item, .ref y_city, .ref y_fresh, .int m_isThere, .ref y_tape, .int m_taped, .int m_latest, .int m_length, .int m_cursor, .int m_token, .int m_start, .int m_till, .int m_fault, .int m_faultAt, .int m_seen, .int m_mirrors, .ref y_cost, .ref y_away, .ref y_fee, .ref y_goesTo, .ref y_priceWas, .ref y_isKept, .ref y_kept, .ref y_trace, .int m_traced2_143])), (y_trace, .inl (cI, 16, .inl tr2_144))] := hD
            refine lv_if_eq (tgt := 91) S.1 S.2.1 dX9_markOf_64 (by decide) (fun c_163 => ?_) (fun c_163 => absurd c_163 (by decide))
            refine lv_iload_n S.1 S.2.1 dX9_markOf_91 rfl (lv_at hl 1 rfl) ?_
            refine lv_istore_n (lv' := [(3, .int k), (0, .ref y), (1, .int k), (2, .int kd)]) S.1 S.2.1 dX9_markOf_92 rfl hl (by decide) rfl (fun ls hl => ?_)
            refine lv_iload_n S.1 S.2.1 dX9_markOf_93 rfl (lv_at hl 3 rfl) ?_
            refine lv_iconst (v := (5)) S.1 S.2.1 dX9_markOf_94 (by decide) ?_
            refine lv_icmp_ne (tgt := 106) S.1 S.2.1 dX9_markOf_95 (by decide) (fun c_164 => ?_) (fun c_164 => ?_)
            · rw [eq2 (a := kd) (b := 5) (A := kd.toInt) (B := 5) rfl rfl] at c_164
              refine lv_iload_n S.1 S.2.1 dX9_markOf_106 rfl (lv_at hl 0 rfl) ?_
              have hP := hP.sub (ws' := [(y, .inr (9, [.int m_thrown, .int m_status, .ref y_lane, .ref y_many, .ref y_item, .ref y_city, .ref y_fresh, .int m_isThere, .ref y_tape, .int m_taped, .int m_latest, .int m_length, .int m_cursor, .int m_token, .int m_start, .int m_till, .int m_fault, .int m_faultAt, .int m_seen, .int m_mirrors, .ref y_cost, .ref y_away, .ref y_fee, .ref y_goesTo, .ref y_priceWas, .ref y_isKept, .ref y_kept, .ref y_trace, .int m_traced2_143])), (y_trace, .inl (cI, 16, .inl tr2_144)), (y_city, .inl (cI, 192, .inl cy))]) [1, 2, 0] rfl
              have hD := hD.sub (ws' := [(y, .inr (9, [.int m_thrown, .int m_status, .ref y_lane, .ref y_many, .ref y_item, .ref y_city, .ref y_fresh, .int m_isThere, .ref y_tape, .int m_taped, .int m_latest, .int m_length, .int m_cursor, .int m_token, .int m_start, .int m_till, .int m_fault, .int m_faultAt, .int m_seen, .int m_mirrors, .ref y_cost, .ref y_away, .ref y_fee, .ref y_goesTo, .ref y_priceWas, .ref y_isKept, .ref y_kept, .ref y_trace, .int m_traced2_143])), (y_trace, .inl (cI, 16, .inl tr2_144)), (y_city, .inl (cI, 192, .inl cy))]) [1, 2, 0] (by decide) rfl
              exact b_iret S.1 S.2.1 X.2.1 X.2.2.1 hP hD hS ⟨m_traced2_143, tr2_144, (by first | assumption | omega | decide | (rw [show Int32.toInt 0 = 0 from rfl]; omega)), rfl⟩ dX9_markOf_107
            · rw [eq2 (a := kd) (b := 5) (A := kd.toInt) (B := 5) rfl rfl] at c_164
              refine lv_iload_n S.1 S.2.1 dX9_markOf_98 rfl (lv_at hl 0 rfl) ?_
              refine lv_sipush (v := (1000)) S.1 S.2.1 dX9_markOf_99 (by decide) ?_
              refine lv_isub S.1 S.2.1 dX9_markOf_102 ?_
              refine lv_topi (fun x_165 ex_165 => ?_)
              refine lv_goto (tgt := 107) S.1 S.2.1 dX9_markOf_103 (by decide) ?_
              have hP := hP.sub (ws' := [(y, .inr (9, [.int m_thrown, .int m_status, .ref y_lane, .ref y_many, .ref y_item, .ref y_city, .ref y_fresh, .int m_isThere, .ref y_tape, .int m_taped, .int m_latest, .int m_length, .int m_cursor, .int m_token, .int m_start, .int m_till, .int m_fault, .int m_faultAt, .int m_seen, .int m_mirrors, .ref y_cost, .ref y_away, .ref y_fee, .ref y_goesTo, .ref y_priceWas, .ref y_isKept, .ref y_kept, .ref y_trace, .int m_traced2_143])), (y_trace, .inl (cI, 16, .inl tr2_144)), (y_city, .inl (cI, 192, .inl cy))]) [1, 2, 0] rfl
              have hD := hD.sub (ws' := [(y, .inr (9, [.int m_thrown, .int m_status, .ref y_lane, .ref y_many, .ref y_item, .ref y_city, .ref y_fresh, .int m_isThere, .ref y_tape, .int m_taped, .int m_latest, .int m_length, .int m_cursor, .int m_token, .int m_start, .int m_till, .int m_fault, .int m_faultAt, .int m_seen, .int m_mirrors, .ref y_cost, .ref y_away, .ref y_fee, .ref y_goesTo, .ref y_priceWas, .ref y_isKept, .ref y_kept, .ref y_trace, .int m_traced2_143])), (y_trace, .inl (cI, 16, .inl tr2_144)), (y_city, .inl (cI, 192, .inl cy))]) [1, 2, 0] (by decide) rfl
              exact b_iret S.1 S.2.1 X.2.1 X.2.2.1 hP hD hS ⟨m_traced2_143, tr2_144, (by first | assumption | omega | decide | (rw [show Int32.toInt 0 = 0 from rfl]; omega)), rfl⟩ dX9_markOf_107
        · rw [eq2 (a := kd) (b := 4) (A := kd.toInt) (B := 4) rfl rfl] at c_146
          refine lv_iload_n S.1 S.2.1 dX9_markOf_51 rfl (lv_at hl 1 rfl) ?_
          refine lv_aload_n S.1 S.2.1 dX9_markOf_52 rfl (lv_at hl 0 rfl) ?_
          refine lv_iload_n S.1 S.2.1 dX9_markOf_53 rfl (lv_at hl 1 rfl) ?_
          refine b_ai (wr := []) (b_runV (q0 := 1) (ci := 9) (As := [.int k]) (s_X9_wallSize l D cI cZ cC cS sq H.size y y_trace y_city k m_thrown m_status y_lane y_many y_item y_fresh m_isThere y_tape m_taped m_latest m_length m_cursor m_token m_start m_till m_fault m_faultAt m_seen m_mirrors y_cost y_away y_fee y_goesTo y_priceWas y_isKept y_kept m_traced2_143 tr2_144 cy (by first | assumption | omega | decide | (rw [show Int32.toInt 0 = 0 from rfl]; omega)) (by first | assumption | omega | decide | (rw [show Int32.toInt 0 = 0 from rfl]; omega)) (by first | assumption | omega | decide | (rw [show Int32.toInt 0 = 0 from rfl]; omega))) S gX9_markOf_X9_wallSize rfl hdV_X9_wallSize ⟨Nat.le_of_ble_eq_true rfl, Nat.le_of_ble_eq_true rfl⟩ ⟨Nat.le_of_ble_eq_true rfl, Nat.le_of_ble_eq_true rfl⟩ hK hT hS hA hP hD rfl rfl [1, 2, 0] rfl (by decide) rfl hl.1 rfl (Nat.le_of_ble_eq_true rfl) dX9_markOf_54) hP hD hS hA [1, 2, 0] [] rfl rfl (by decide) (by decide) (fun r_166 w_167 H locs hw_168 hP hD hS => ?_)
          obtain ⟨m_traced2_169, tr2_170, hf_171, rfl⟩ := hw_168
          have hP : va_P D vwCl [(y, .inr (9, [.int m_thrown, .int m_status, .ref y_lane, .ref y_many, .ref y_item, .ref y_city, .ref y_fresh, .int m_isThere, .ref y_tape, .int m_taped, .int m_latest, .int m_length, .int m_cursor, .int m_token, .int m_start, .int m_till, .int m_fault, .int m_faultAt, .int m_seen, .int m_mirrors, .ref y_cost, .ref y_away, .ref y_fee, .ref y_goesTo, .ref y_priceWas, .ref y_isKept, .ref y_kept, .ref y_trace, .int m_traced2_169])), (y_trace, .inl (cI, 16, .inl tr2_170)), (y_city, .inl (cI, 192, .inl cy))] H := hP
          have hD : va_D A [(y, .inr (9, [.int m_thrown, .int m_status, .ref y_lane, .ref y_many, .ref y_item, .ref y_city, .ref y_fresh, .int m_isThere, .ref y_tape, .int m_taped, .int m_latest, .int m_length, .int m_cursor, .int m_token, .int m_start, .int m_till, .int m_fault, .int m_faultAt, .int m_seen, .int m_mirrors, .ref y_cost, .ref y_away, .ref y_fee, .ref y_goesTo, .ref y_priceWas, .ref y_isKept, .ref y_kept, .ref y_trace, .int m_traced2_169])), (y_trace, .inl (cI, 16, .inl tr2_170)), (y_city, .inl (cI, 192, .inl cy))] := hD
          refine lv_iadd S.1 S.2.1 dX9_markOf_57 ?_
          refine lv_topi (fun x_172 ex_172 => ?_)
          exact b_iret S.1 S.2.1 X.2.1 X.2.2.1 hP hD hS ⟨m_traced2_169, tr2_170, (by first | assumption | omega | decide | (rw [show Int32.toInt 0 = 0 from rfl]; omega)), rfl⟩ dX9_markOf_58
  · rw [eq2 (a := kd) (b := 5) (A := kd.toInt) (B := 5) rfl rfl] at c_1
    refine lv_iload_n S.1 S.2.1 dX9_markOf_5 rfl (lv_at hl 2 rfl) ?_
    refine lv_iconst (v := (4)) S.1 S.2.1 dX9_markOf_6 (by decide) ?_
    refine lv_icmp_ne (tgt := 26) S.1 S.2.1 dX9_markOf_7 (by decide) (fun c_173 => ?_) (fun c_173 => ?_)
    · rw [eq2 (a := kd) (b := 4) (A := kd.toInt) (B := 4) rfl rfl] at c_173
      refine lv_iload_n S.1 S.2.1 dX9_markOf_26 rfl (lv_at hl 2 rfl) ?_
      refine lv_iconst (v := (3)) S.1 S.2.1 dX9_markOf_27 (by decide) ?_
      refine b_ai (wr := [(y, .inr (9, [.int m_thrown, .int m_status, .ref y_lane, .ref y_many, .ref y_item, .ref y_city, .ref y_fresh, .int m_isThere, .ref y_tape, .int m_taped, .int m_latest, .int m_length, .int m_cursor, .int m_token, .int m_start, .int m_till, .int m_fault, .int m_faultAt, .int m_seen, .int m_mirrors, .ref y_cost, .ref y_away, .ref y_fee, .ref y_goesTo, .ref y_priceWas, .ref y_isKept, .ref y_kept, .ref y_trace, .int m_traced])), (y_trace, .inl (cI, 16, .inl tr)), (y_city, .inl (cI, 192, .inl cy))]) (b_runS (As := [.int kd, .int 3]) (s_X9_isOf2 l D cI cZ cC cS sq H.size kd (3)) S gX9_markOf_X9_isOf rfl hdS_X9_isOf ⟨Nat.le_of_ble_eq_true rfl, Nat.le_of_ble_eq_true rfl⟩ ⟨Nat.le_of_ble_eq_true rfl, Nat.le_of_ble_eq_true rfl⟩ hK hT hS hA hP hD [] rfl (by decide) rfl hl.1 rfl (Nat.le_of_ble_eq_true rfl) dX9_markOf_28) hP hD hS hA [] [0, 1, 2] rfl rfl (by decide) (by decide) (fun r_174 w_175 H locs hw_176 hP hD hS => ?_)
      rcases hw_176 with ⟨hf_177, rfl, rfl⟩ | ⟨hf_178, rfl, rfl⟩
      · have hf_177 : ((3) : Int) = 0 ∨ kd.toInt = ((3) : Int) ∨ (((3) : Int) = 3 ∧ kd.toInt = 5) ∨ (((3) : Int) = 2 ∧ (kd.toInt = 3 ∨ kd.toInt = 4 ∨ kd.toInt = 5)) := hf_177
        have hP : va_P D vwCl [(y, .inr (9, [.int m_thrown, .int m_status, .ref y_lane, .ref y_many, .ref y_item, .ref y_city, .ref y_fresh, .int m_isThere, .ref y_tape, .int m_taped, .int m_latest, .int m_length, .int m_cursor, .int m_token, .int m_start, .int m_till, .int m_fault, .int m_faultAt, .int m_seen, .int m_mirrors, .ref y_cost, .ref y_away, .ref y_fee, .ref y_goesTo, .ref y_priceWas, .ref y_isKept, .ref y_kept, .ref y_trace, .int m_traced])), (y_trace, .inl (cI, 16, .inl tr)), (y_city, .inl (cI, 192, .inl cy))] H := hP
        have hD : va_D A [(y, .inr (9, [.int m_thrown, .int m_status, .ref y_lane, .ref y_many, .ref y_item, .ref y_city, .ref y_fresh, .int m_isThere, .ref y_tape, .int m_taped, .int m_latest, .int m_length, .int m_cursor, .int m_token, .int m_start, .int m_till, .int m_fault, .int m_faultAt, .int m_seen, .int m_mirrors, .ref y_cost, .ref y_away, .ref y_fee, .ref y_goesTo, .ref y_priceWas, .ref y_isKept, .ref y_kept, .ref y_trace, .int m_traced])), (y_trace, .inl (cI, 16, .inl tr)), (y_city, .inl (cI, 192, .inl cy))] := hD
        refine lv_if_eq (tgt := 40) S.1 S.2.1 dX9_markOf_31 (by decide) (fun c_179 => absurd c_179 (by decide)) (fun c_179 => ?_)
        refine lv_aload_n S.1 S.2.1 dX9_markOf_34 rfl (lv_at hl 0 rfl) ?_
        refine lv_bipush (v := (21)) S.1 S.2.1 dX9_markOf_35 (by decide) ?_
        refine b_av (wr := [(y_city, .inl (cI, 192, .inl cy))]) (b_runV (q0 := 0) (ci := 9) (As := [.int 21]) (s_X9_began l D cI cZ cC cS sq H.size y y_trace (21) m_thrown m_status y_lane y_many y_item y_city y_fresh m_isThere y_tape m_taped m_latest m_length m_cursor m_token m_start m_till m_fault m_faultAt m_seen m_mirrors y_cost y_away y_fee y_goesTo y_priceWas y_isKept y_kept m_traced tr (by first | assumption | omega | decide | (rw [show Int32.toInt 0 = 0 from rfl]; omega))) S gX9_markOf_X9_began rfl hdV_X9_began ⟨Nat.le_of_ble_eq_true rfl, Nat.le_of_ble_eq_true rfl⟩ ⟨Nat.le_of_ble_eq_true rfl, Nat.le_of_ble_eq_true rfl⟩ hK hT hS hA hP hD rfl rfl [0, 1] rfl (by decide) rfl hl.1 rfl (Nat.le_of_ble_eq_true rfl) dX9_markOf_37) hP hD hS hA [0, 1] [2] rfl rfl (by decide) (by decide) (fun w_181 H locs hw_182 hP hD hS => ?_)
        obtain ⟨m_traced2_183, tr2_184, hf_185, rfl⟩ := hw_182
        have hP : va_P D vwCl [(y_city, .inl (cI, 192, .inl cy)), (y, .inr (9, [.int m_thrown, .int m_status, .ref y_lane, .ref y_many, .ref y_item, .ref y_city, .ref y_fresh, .int m_isThere, .ref y_tape, .int m_taped, .int m_latest, .int m_length, .int m_cursor, .int m_token, .int m_start, .int m_till, .int m_fault, .int m_faultAt, .int m_seen, .int m_mirrors, .ref y_cost, .ref y_away, .ref y_fee, .ref y_goesTo, .ref y_priceWas, .ref y_isKept, .ref y_kept, .ref y_trace, .int m_traced2_183])), (y_trace, .inl (cI, 16, .inl tr2_184))] H := hP
        have hD : va_D A [(y_city, .inl (cI, 192, .inl cy)), (y, .inr (9, [.int m_thrown, .int m_status, .ref y_lane, .ref y_many, .ref y_item, .ref y_city, .ref y_fresh, .int m_isThere, .ref y_tape, .int m_taped, .int m_latest, .int m_length, .int m_cursor, .int m_token, .int m_start, .int m_till, .int m_fault, .int m_faultAt, .int m_seen, .int m_mirrors, .ref y_cost, .ref y_away, .ref y_fee, .ref y_goesTo, .ref y_priceWas, .ref y_isKept, .ref y_kept, .ref y_trace, .int m_traced2_183])), (y_trace, .inl (cI, 16, .inl tr2_184))] := hD
        refine lv_aload_n S.1 S.2.1 dX9_markOf_40 rfl (lv_at hl 0 rfl) ?_
        refine lv_bipush (v := (20)) S.1 S.2.1 dX9_markOf_41 (by decide) ?_
        refine b_av (wr := [(y_city, .inl (cI, 192, .inl cy))]) (b_runV (q0 := 1) (ci := 9) (As := [.int 20]) (s_X9_began l D cI cZ cC cS sq H.size y y_trace (20) m_thrown m_status y_lane y_many y_item y_city y_fresh m_isThere y_tape m_taped m_latest m_length m_cursor m_token m_start m_till m_fault m_faultAt m_seen m_mirrors y_cost y_away y_fee y_goesTo y_priceWas y_isKept y_kept m_traced2_183 tr2_184 (by first | assumption | omega | decide | (rw [show Int32.toInt 0 = 0 from rfl]; omega))) S gX9_markOf_X9_began rfl hdV_X9_began ⟨Nat.le_of_ble_eq_true rfl, Nat.le_of_ble_eq_true rfl⟩ ⟨Nat.le_of_ble_eq_true rfl, Nat.le_of_ble_eq_true rfl⟩ hK hT hS hA hP hD rfl rfl [1, 2] rfl (by decide) rfl hl.1 rfl (Nat.le_of_ble_eq_true rfl) dX9_markOf_43) hP hD hS hA [1, 2] [0] rfl rfl (by decide) (by decide) (fun w_187 H locs hw_188 hP hD hS => ?_)
        obtain ⟨m_traced2_189, tr2_190, hf_191, rfl⟩ := hw_188
        have hP : va_P D vwCl [(y_city, .inl (cI, 192, .inl cy)), (y, .inr (9, [.int m_thrown, .int m_status, .ref y_lane, .ref y_many, .ref y_item, .ref y_city, .ref y_fresh, .int m_isThere, .ref y_tape, .int m_taped, .int m_latest, .int m_length, .int m_cursor, .int m_token, .int m_start, .int m_till, .int m_fault, .int m_faultAt, .int m_seen, .int m_mirrors, .ref y_cost, .ref y_away, .ref y_fee, .ref y_goesTo, .ref y_priceWas, .ref y_isKept, .ref y_kept, .ref y_trace, .int m_traced2_189])), (y_trace, .inl (cI, 16, .inl tr2_190))] H := hP
        have hD : va_D A [(y_city, .inl (cI, 192, .inl cy)), (y, .inr (9, [.int m_thrown, .int m_status, .ref y_lane, .ref y_many, .ref y_item, .ref y_city, .ref y_fresh, .int m_isThere, .ref y_tape, .int m_taped, .int m_latest, .int m_length, .int m_cursor, .int m_token, .int m_start, .int m_till, .int m_fault, .int m_faultAt, .int m_seen, .int m_mirrors, .ref y_cost, .ref y_away, .ref y_fee, .ref y_goesTo, .ref y_priceWas, .ref y_isKept, .ref y_kept, .ref y_trace, .int m_traced2_189])), (y_trace, .inl (cI, 16, .inl tr2_190))] := hD
        refine lv_iload_n S.1 S.2.1 dX9_markOf_46 rfl (lv_at hl 2 rfl) ?_
        refine lv_iconst (v := (4)) S.1 S.2.1 dX9_markOf_47 (by decide) ?_
        refine lv_icmp_ne (tgt := 59) S.1 S.2.1 dX9_markOf_48 (by decide) (fun c_192 => ?_) (fun c_192 => ?_)
        · rw [eq2 (a := kd) (b := 4) (A := kd.toInt) (B := 4) rfl rfl] at c_192
          refine lv_iload_n S.1 S.2.1 dX9_markOf_59 rfl (lv_at hl 2 rfl) ?_
          refine lv_iconst (v := (3)) S.1 S.2.1 dX9_markOf_60 (by decide) ?_
          refine b_ai (wr := [(y_city, .inl (cI, 192, .inl cy)), (y, .inr (9, [.int m_thrown, .int m_status, .ref y_lane, .ref y_many, .ref y_item, .ref y_city, .ref y_fresh, .int m_isThere, .ref y_tape, .int m_taped, .int m_latest, .int m_length, .int m_cursor, .int m_token, .int m_start, .int m_till, .int m_fault, .int m_faultAt, .int m_seen, .int m_mirrors, .ref y_cost, .ref y_away, .ref y_fee, .ref y_goesTo, .ref y_priceWas, .ref y_isKept, .ref y_kept, .ref y_trace, .int m_traced2_189])), (y_trace, .inl (cI, 16, .inl tr2_190))]) (b_runS (As := [.int kd, .int 3]) (s_X9_isOf2 l D cI cZ cC cS sq H.size kd (3)) S gX9_markOf_X9_isOf rfl hdS_X9_isOf ⟨Nat.le_of_ble_eq_true rfl, Nat.le_of_ble_eq_true rfl⟩ ⟨Nat.le_of_ble_eq_true rfl, Nat.le_of_ble_eq_true rfl⟩ hK hT hS hA hP hD [] rfl (by decide) rfl hl.1 rfl (Nat.le_of_ble_eq_true rfl) dX9_markOf_61) hP hD hS hA [] [0, 1, 2] rfl rfl (by decide) (by decide) (fun r_193 w_194 H locs hw_195 hP hD hS => ?_)
          rcases hw_195 with ⟨hf_196, rfl, rfl⟩ | ⟨hf_197, rfl, rfl⟩
          · have hf_196 : ((3) : Int) = 0 ∨ kd.toInt = ((3) : Int) ∨ (((3) : Int) = 3 ∧ kd.toInt = 5) ∨ (((3) : Int) = 2 ∧ (kd.toInt = 3 ∨ kd.toInt = 4 ∨ kd.toInt = 5)) := hf_196
            have hP : va_P D vwCl [(y_city, .inl (cI, 192, .inl cy)), (y, .inr (9, [.int m_thrown, .int m_status, .ref y_lane, .ref y_many, .ref y_item, .ref y_city, .ref y_fresh, .int m_isThere, .ref y_tape, .int m_taped, .int m_latest, .int m_length, .int m_cursor, .int m_token, .int m_start, .int m_till, .int m_fault, .int m_faultAt, .int m_seen, .int m_mirrors, .ref y_cost, .ref y_away, .ref y_fee, .ref y_goesTo, .ref y_priceWas, .ref y_isKept, .ref y_kept, .ref y_trace, .int m_traced2_189])), (y_trace, .inl (cI, 16, .inl tr2_190))] H := hP
            have hD : va_D A [(y_city, .inl (cI, 192, .inl cy)), (y, .inr (9, [.int m_thrown, .int m_status, .ref y_lane, .ref y_many, .ref y_item, .ref y_city, .ref y_fresh, .int m_isThere, .ref y_tape, .int m_taped, .int m_latest, .int m_length, .int m_cursor, .int m_token, .int m_start, .int m_till, .int m_fault, .int m_faultAt, .int m_seen, .int m_mirrors, .ref y_cost, .ref y_away, .ref y_fee, .ref y_goesTo, .ref y_priceWas, .ref y_isKept, .ref y_kept, .ref y_trace, .int m_traced2_189])), (y_trace, .inl (cI, 16, .inl tr2_190))] := hD
            refine lv_if_eq (tgt := 91) S.1 S.2.1 dX9_markOf_64 (by decide) (fun c_198 => absurd c_198 (by decide)) (fun c_198 => ?_)
            refine lv_iload_n S.1 S.2.1 dX9_markOf_67 rfl (lv_at hl 1 rfl) ?_
            refine lv_bipush (v := (100)) S.1 S.2.1 dX9_markOf_68 (by decide) ?_
            refine lv_aload_n S.1 S.2.1 dX9_markOf_70 rfl (lv_at hl 0 rfl) ?_
            refine b_get (v := .ref y_city) S iX9 hK hP 1 rfl rfl 5 (by decide) (by decide +kernel) rfl dX9_markOf_71 ?_
            refine lv_bipush (v := (84)) S.1 S.2.1 dX9_markOf_74 (by decide) ?_
            refine lv_aload_n S.1 S.2.1 dX9_markOf_76 rfl (lv_at hl 0 rfl) ?_
            refine b_get (v := .ref y_city) S iX9 hK hP 1 rfl rfl 5 (by decide) (by decide +kernel) rfl dX9_markOf_77 ?_
            refine lv_iconst (v := (4)) S.1 S.2.1 dX9_markOf_80 (by decide) ?_
            refine lv_iload_n S.1 S.2.1 dX9_markOf_81 rfl (lv_at hl 1 rfl) ?_
            refine lv_iadd S.1 S.2.1 dX9_markOf_82 ?_
            refine lv_topi (fun x_199 ex_199 => ?_)
            have tx_199 : x_199.toInt = 4 + (k.toInt) := addI (A := 4) (B := k.toInt) ex_199 rfl rfl (by omega) (by omega)
            have hin_200 : vp_in x_199 192 := (in_of (n := 192) (by omega) (by omega))
            refine va_iald S.1 S.2.1 hK.1 hP 0 0 rfl rfl hin_200 dX9_markOf_83 ?_
            refine lv_topi (fun x_201 ex_201 => ?_)
            have tx_201 := cyg_A (x := x_201) (show prd cyK 192 cy by assumption) (by omega) ex_201
            have bx_201 : x_201.toInt = (cy (4 + k.toInt.toNat)).toInt := by rw [ex_201, show (x_199).toNatClampNeg = 4 + k.toInt.toNat from by show (x_199).toInt.toNat = _; omega]
            refine lv_iadd S.1 S.2.1 dX9_markOf_84 ?_
            refine lv_topi (fun x_202 ex_202 => ?_)
            have tx_202 : x_202.toInt = 84 + (x_201.toInt) := addI (A := 84) (B := x_201.toInt) ex_202 rfl rfl (by omega) (by omega)
            have hin_203 : vp_in x_202 192 := (in_of (n := 192) (by omega) (by omega))
            refine va_iald S.1 S.2.1 hK.1 hP 0 0 rfl rfl hin_203 dX9_markOf_85 ?_
            refine lv_topi (fun x_204 ex_204 => ?_)
            have tx_204 := cyg_P (x := x_204) (show prd cyK 192 cy by assumption) (by omega) ex_204
            refine lv_imul S.1 S.2.1 dX9_markOf_86 ?_
            refine lv_topi (fun x_205 ex_205 => ?_)
            refine lv_iadd S.1 S.2.1 dX9_markOf_87 ?_
            refine lv_topi (fun x_206 ex_206 => ?_)
            refine lv_goto (tgt := 92) S.1 S.2.1 dX9_markOf_88 (by decide) ?_
            refine lv_istore_n (lv' := [(3, .int x_206), (0, .ref y), (1, .int k), (2, .int kd)]) S.1 S.2.1 dX9_markOf_92 rfl hl (by decide) rfl (fun ls hl => ?_)
            refine lv_iload_n S.1 S.2.1 dX9_markOf_93 rfl (lv_at hl 3 rfl) ?_
            refine lv_iconst (v := (5)) S.1 S.2.1 dX9_markOf_94 (by decide) ?_
            refine lv_icmp_ne (tgt := 106) S.1 S.2.1 dX9_markOf_95 (by decide) (fun c_207 => ?_) (fun c_207 => ?_)
            · rw [eq2 (a := kd) (b := 5) (A := kd.toInt) (B := 5) rfl rfl] at c_207
              refine lv_iload_n S.1 S.2.1 dX9_markOf_106 rfl (lv_at hl 0 rfl) ?_
              have hP := hP.sub (ws' := [(y, .inr (9, [.int m_thrown, .int m_status, .ref y_lane, .ref y_many, .ref y_item, .ref y_city, .ref y_fresh, .int m_isThere, .ref y_tape, .int m_taped, .int m_latest, .int m_length, .int m_cursor, .int m_token, .int m_start, .int m_till, .int m_fault, .int m_faultAt, .int m_seen, .int m_mirrors, .ref y_cost, .ref y_away, .ref y_fee, .ref y_goesTo, .ref y_priceWas, .ref y_isKept, .ref y_kept, .ref y_trace, .int m_traced2_189])), (y_trace, .inl (cI, 16, .inl tr2_190)), (y_city, .inl (cI, 192, .inl cy))]) [1, 2, 0] rfl
              have hD := hD.sub (ws' := [(y, .inr (9, [.int m_thrown, .int m_status, .ref y_lane, .ref y_many, .ref y_item, .ref y_city, .ref y_fresh, .int m_isThere, .ref y_tape, .int m_taped, .int m_latest, .int m_length, .int m_cursor, .int m_token, .int m_start, .int m_till, .int m_fault, .int m_faultAt, .int m_seen, .int m_mirrors, .ref y_cost, .ref y_away, .ref y_fee, .ref y_goesTo, .ref y_priceWas, .ref y_isKept, .ref y_kept, .ref y_trace, .int m_traced2_189])), (y_trace, .inl (cI, 16, .inl tr2_190)), (y_city, .inl (cI, 192, .inl cy))]) [1, 2, 0] (by decide) rfl
              exact b_iret S.1 S.2.1 X.2.1 X.2.2.1 hP hD hS ⟨m_traced2_189, tr2_190, (by first | assumption | omega | decide | (rw [show Int32.toInt 0 = 0 from rfl]; omega)), rfl⟩ dX9_markOf_107
            · rw [eq2 (a := kd) (b := 5) (A := kd.toInt) (B := 5) rfl rfl] at c_207
              refine lv_iload_n S.1 S.2.1 dX9_markOf_98 rfl (lv_at hl 0 rfl) ?_
              refine lv_sipush (v := (1000)) S.1 S.2.1 dX9_markOf_99 (by decide) ?_
              refine lv_isub S.1 S.2.1 dX9_markOf_102 ?_
              refine lv_topi (fun x_208 ex_208 => ?_)
              refine lv_goto (tgt := 107) S.1 S.2.1 dX9_markOf_103 (by decide) ?_
              have hP := hP.sub (ws' := [(y, .inr (9, [.int m_thrown, .int m_status, .ref y_lane, .ref y_many, .ref y_item, .ref y_city, .ref y_fresh, .int m_isThere, .ref y_tape, .int m_taped, .int m_latest, .int m_length, .int m_cursor, .int m_token, .int m_start, .int m_till, .int m_fault, .int m_faultAt, .int m_seen, .int m_mirrors, .ref y_cost, .ref y_away, .ref y_fee, .ref y_goesTo, .ref y_priceWas, .ref y_isKept, .ref y_kept, .ref y_trace, .int m_traced2_189])), (y_trace, .inl (cI, 16, .inl tr2_190)), (y_city, .inl (cI, 192, .inl cy))]) [1, 2, 0] rfl
              have hD := hD.sub (ws' := [(y, .inr (9, [.int m_thrown, .int m_status, .ref y_lane, .ref y_many, .ref y_item, .ref y_city, .ref y_fresh, .int m_isThere, .ref y_tape, .int m_taped, .int m_latest, .int m_length, .int m_cursor, .int m_token, .int m_start, .int m_till, .int m_fault, .int m_faultAt, .int m_seen, .int m_mirrors, .ref y_cost, .ref y_away, .ref y_fee, .ref y_goesTo, .ref y_priceWas, .ref y_isKept, .ref y_kept, .ref y_trace, .int m_traced2_189])), (y_trace, .inl (cI, 16, .inl tr2_190)), (y_city, .inl (cI, 192, .inl cy))]) [1, 2, 0] (by decide) rfl
              exact b_iret S.1 S.2.1 X.2.1 X.2.2.1 hP hD hS ⟨m_traced2_189, tr2_190, (by first | assumption | omega | decide | (rw [show Int32.toInt 0 = 0 from rfl]; omega)), rfl⟩ dX9_markOf_107
          · have hf_197 : ¬ (((3) : Int) = 0 ∨ kd.toInt = ((3) : Int) ∨ (((3) : Int) = 3 ∧ kd.toInt = 5) ∨ (((3) : Int) = 2 ∧ (kd.toInt = 3 ∨ kd.toInt = 4 ∨ kd.toInt = 5))) := hf_197
            have hP : va_P D vwCl [(y_city, .inl (cI, 192, .inl cy)), (y, .inr (9, [.int m_thrown, .int m_status, .ref y_lane, .ref y_many, .ref y_item, .ref y_city, .ref y_fresh, .int m_isThere, .ref y_tape, .int m_taped, .int m_latest, .int m_length, .int m_cursor, .int m_token, .int m_start, .int m_till, .int m_fault, .int m_faultAt, .int m_seen, .int m_mirrors, .ref y_cost, .ref y_away, .ref y_fee, .ref y_goesTo, .ref y_priceWas, .ref y_isKept, .ref y_kept, .ref y_trace, .int m_traced2_189])), (y_trace, .inl (cI, 16, .inl tr2_190))] H := hP
            have hD : va_D A [(y_city, .inl (cI, 192, .inl cy)), (y, .inr (9, [.int m_thrown, .int m_status, .ref y_lane, .ref y_many, .ref y_item, .ref y_city, .ref y_fresh, .int m_isThere, .ref y_tape, .int m_taped, .int m_latest, .int m_length, .int m_cursor, .int m_token, .int m_start, .int m_till, .int m_fault, .int m_faultAt, .int m_seen, .int m_mirrors, .ref y_cost, .ref y_away, .ref y_fee, .ref y_goesTo, .ref y_priceWas, .ref y_isKept, .ref y_kept, .ref y_trace, .int m_traced2_189])), (y_trace, .inl (cI, 16, .inl tr2_190))] := hD
            refine lv_if_eq (tgt := 91) S.1 S.2.1 dX9_markOf_64 (by decide) (fun c_209 => ?_) (fun c_209 => absurd c_209 (by decide))
            refine lv_iload_n S.1 S.2.1 dX9_markOf_91 rfl (lv_at hl 1 rfl) ?_
            refine lv_istore_n (lv' := [(3, .int k), (0, .ref y), (1, .int k), (2, .int kd)]) S.1 S.2.1 dX9_markOf_92 rfl hl (by decide) rfl (fun ls hl => ?_)
            refine lv_iload_n S.1 S.2.1 dX9_markOf_93 rfl (lv_at hl 3 rfl) ?_
            refine lv_iconst (v := (5)) S.1 S.2.1 dX9_markOf_94 (by decide) ?_
            refine lv_icmp_ne (tgt := 106) S.1 S.2.1 dX9_markOf_95 (by decide) (fun c_210 => ?_) (fun c_210 => ?_)
            · rw [eq2 (a := kd) (b := 5) (A := kd.toInt) (B := 5) rfl rfl] at c_210
              refine lv_iload_n S.1 S.2.1 dX9_markOf_106 rfl (lv_at hl 0 rfl) ?_
              have hP := hP.sub (ws' := [(y, .inr (9, [.int m_thrown, .int m_status, .ref y_lane, .ref y_many, .ref y_item, .ref y_city, .ref y_fresh, .int m_isThere, .ref y_tape, .int m_taped, .int m_latest, .int m_length, .int m_cursor, .int m_token, .int m_start, .int m_till, .int m_fault, .int m_faultAt, .int m_seen, .int m_mirrors, .ref y_cost, .ref y_away, .ref y_fee, .ref y_goesTo, .ref y_priceWas, .ref y_isKept, .ref y_kept, .ref y_trace, .int m_traced2_189])), (y_trace, .inl (cI, 16, .inl tr2_190)), (y_city, .inl (cI, 192, .inl cy))]) [1, 2, 0] rfl
              have hD := hD.sub (ws' := [(y, .inr (9, [.int m_thrown, .int m_status, .ref y_lane, .ref y_many, .ref y_item, .ref y_city, .ref y_fresh, .int m_isThere, .ref y_tape, .int m_taped, .int m_latest, .int m_length, .int m_cursor, .int m_token, .int m_start, .int m_till, .int m_fault, .int m_faultAt, .int m_seen, .int m_mirrors, .ref y_cost, .ref y_away, .ref y_fee, .ref y_goesTo, .ref y_priceWas, .ref y_isKept, .ref y_kept, .ref y_trace, .int m_traced2_189])), (y_trace, .inl (cI, 16, .inl tr2_190)), (y_city, .inl (cI, 192, .inl cy))]) [1, 2, 0] (by decide) rfl
              exact b_iret S.1 S.2.1 X.2.1 X.2.2.1 hP hD hS ⟨m_traced2_189, tr2_190, (by first | assumption | omega | decide | (rw [show Int32.toInt 0 = 0 from rfl]; omega)), rfl⟩ dX9_markOf_107
            · rw [eq2 (a := kd) (b := 5) (A := kd.toInt) (B := 5) rfl rfl] at c_210
              refine lv_iload_n S.1 S.2.1 dX9_markOf_98 rfl (lv_at hl 0 rfl) ?_
              refine lv_sipush (v := (1000)) S.1 S.2.1 dX9_markOf_99 (by decide) ?_
              refine lv_isub S.1 S.2.1 dX9_markOf_102 ?_
              refine lv_topi (fun x_211 ex_211 => ?_)
              refine lv_goto (tgt := 107) S.1 S.2.1 dX9_markOf_103 (by decide) ?_
              have hP := hP.sub (ws' := [(y, .inr (9, [.int m_thrown, .int m_status, .ref y_lane, .ref y_many, .ref y_item, .ref y_city, .ref y_fresh, .int m_isThere, .ref y_tape, .int m_taped, .int m_latest, .int m_length, .int m_cursor, .int m_token, .int m_start, .int m_till, .int m_fault, .int m_faultAt, .int m_seen, .int m_mirrors, .ref y_cost, .ref y_away, .ref y_fee, .ref y_goesTo, .ref y_priceWas, .ref y_isKept, .ref y_kept, .ref y_trace, .int m_traced2_189])), (y_trace, .inl (cI, 16, .inl tr2_190)), (y_city, .inl (cI, 192, .inl cy))]) [1, 2, 0] rfl
              have hD := hD.sub (ws' := [(y, .inr (9, [.int m_thrown, .int m_status, .ref y_lane, .ref y_many, .ref y_item, .ref y_city, .ref y_fresh, .int m_isThere, .ref y_tape, .int m_taped, .int m_latest, .int m_length, .int m_cursor, .int m_token, .int m_start, .int m_till, .int m_fault, .int m_faultAt, .int m_seen, .int m_mirrors, .ref y_cost, .ref y_away, .ref y_fee, .ref y_goesTo, .ref y_priceWas, .ref y_isKept, .ref y_kept, .ref y_trace, .int m_traced2_189])), (y_trace, .inl (cI, 16, .inl tr2_190)), (y_city, .inl (cI, 192, .inl cy))]) [1, 2, 0] (by decide) rfl
              exact b_iret S.1 S.2.1 X.2.1 X.2.2.1 hP hD hS ⟨m_traced2_189, tr2_190, (by first | assumption | omega | decide | (rw [show Int32.toInt 0 = 0 from rfl]; omega)), rfl⟩ dX9_markOf_107
        · rw [eq2 (a := kd) (b := 4) (A := kd.toInt) (B := 4) rfl rfl] at c_192
          refine lv_iload_n S.1 S.2.1 dX9_markOf_51 rfl (lv_at hl 1 rfl) ?_
          refine lv_aload_n S.1 S.2.1 dX9_markOf_52 rfl (lv_at hl 0 rfl) ?_
          refine lv_iload_n S.1 S.2.1 dX9_markOf_53 rfl (lv_at hl 1 rfl) ?_
          refine b_ai (wr := []) (b_runV (q0 := 1) (ci := 9) (As := [.int k]) (s_X9_wallSize l D cI cZ cC cS sq H.size y y_trace y_city k m_thrown m_status y_lane y_many y_item y_fresh m_isThere y_tape m_taped m_latest m_length m_cursor m_token m_start m_till m_fault m_faultAt m_seen m_mirrors y_cost y_away y_fee y_goesTo y_priceWas y_isKept y_kept m_traced2_189 tr2_190 cy (by first | assumption | omega | decide | (rw [show Int32.toInt 0 = 0 from rfl]; omega)) (by first | assumption | omega | decide | (rw [show Int32.toInt 0 = 0 from rfl]; omega)) (by first | assumption | omega | decide | (rw [show Int32.toInt 0 = 0 from rfl]; omega))) S gX9_markOf_X9_wallSize rfl hdV_X9_wallSize ⟨Nat.le_of_ble_eq_true rfl, Nat.le_of_ble_eq_true rfl⟩ ⟨Nat.le_of_ble_eq_true rfl, Nat.le_of_ble_eq_true rfl⟩ hK hT hS hA hP hD rfl rfl [1, 2, 0] rfl (by decide) rfl hl.1 rfl (Nat.le_of_ble_eq_true rfl) dX9_markOf_54) hP hD hS hA [1, 2, 0] [] rfl rfl (by decide) (by decide) (fun r_212 w_213 H locs hw_214 hP hD hS => ?_)
          obtain ⟨m_traced2_215, tr2_216, hf_217, rfl⟩ := hw_214
          have hP : va_P D vwCl [(y, .inr (9, [.int m_thrown, .int m_status, .ref y_lane, .ref y_many, .ref y_item, .ref y_city, .ref y_fresh, .int m_isThere, .ref y_tape, .int m_taped, .int m_latest, .int m_length, .int m_cursor, .int m_token, .int m_start, .int m_till, .int m_fault, .int m_faultAt, .int m_seen, .int m_mirrors, .ref y_cost, .ref y_away, .ref y_fee, .ref y_goesTo, .ref y_priceWas, .ref y_isKept, .ref y_kept, .ref y_trace, .int m_traced2_215])), (y_trace, .inl (cI, 16, .inl tr2_216)), (y_city, .inl (cI, 192, .inl cy))] H := hP
          have hD : va_D A [(y, .inr (9, [.int m_thrown, .int m_status, .ref y_lane, .ref y_many, .ref y_item, .ref y_city, .ref y_fresh, .int m_isThere, .ref y_tape, .int m_taped, .int m_latest, .int m_length, .int m_cursor, .int m_token, .int m_start, .int m_till, .int m_fault, .int m_faultAt, .int m_seen, .int m_mirrors, .ref y_cost, .ref y_away, .ref y_fee, .ref y_goesTo, .ref y_priceWas, .ref y_isKept, .ref y_kept, .ref y_trace, .int m_traced2_215])), (y_trace, .inl (cI, 16, .inl tr2_216)), (y_city, .inl (cI, 192, .inl cy))] := hD
          refine lv_iadd S.1 S.2.1 dX9_markOf_57 ?_
          refine lv_topi (fun x_218 ex_218 => ?_)
          exact b_iret S.1 S.2.1 X.2.1 X.2.2.1 hP hD hS ⟨m_traced2_215, tr2_216, (by first | assumption | omega | decide | (rw [show Int32.toInt 0 = 0 from rfl]; omega)), rfl⟩ dX9_markOf_58
      · have hf_178 : ¬ (((3) : Int) = 0 ∨ kd.toInt = ((3) : Int) ∨ (((3) : Int) = 3 ∧ kd.toInt = 5) ∨ (((3) : Int) = 2 ∧ (kd.toInt = 3 ∨ kd.toInt = 4 ∨ kd.toInt = 5))) := hf_178
        have hP : va_P D vwCl [(y, .inr (9, [.int m_thrown, .int m_status, .ref y_lane, .ref y_many, .ref y_item, .ref y_city, .ref y_fresh, .int m_isThere, .ref y_tape, .int m_taped, .int m_latest, .int m_length, .int m_cursor, .int m_token, .int m_start, .int m_till, .int m_fault, .int m_faultAt, .int m_seen, .int m_mirrors, .ref y_cost, .ref y_away, .ref y_fee, .ref y_goesTo, .ref y_priceWas, .ref y_isKept, .ref y_kept, .ref y_trace, .int m_traced])), (y_trace, .inl (cI, 16, .inl tr)), (y_city, .inl (cI, 192, .inl cy))] H := hP
        have hD : va_D A [(y, .inr (9, [.int m_thrown, .int m_status, .ref y_lane, .ref y_many, .ref y_item, .ref y_city, .ref y_fresh, .int m_isThere, .ref y_tape, .int m_taped, .int m_latest, .int m_length, .int m_cursor, .int m_token, .int m_start, .int m_till, .int m_fault, .int m_faultAt, .int m_seen, .int m_mirrors, .ref y_cost, .ref y_away, .ref y_fee, .ref y_goesTo, .ref y_priceWas, .ref y_isKept, .ref y_kept, .ref y_trace, .int m_traced])), (y_trace, .inl (cI, 16, .inl tr)), (y_city, .inl (cI, 192, .inl cy))] := hD
        refine lv_if_eq (tgt := 40) S.1 S.2.1 dX9_markOf_31 (by decide) (fun c_219 => ?_) (fun c_219 => absurd c_219 (by decide))
        refine lv_aload_n S.1 S.2.1 dX9_markOf_40 rfl (lv_at hl 0 rfl) ?_
        refine lv_bipush (v := (20)) S.1 S.2.1 dX9_markOf_41 (by decide) ?_
        refine b_av (wr := [(y_city, .inl (cI, 192, .inl cy))]) (b_runV (q0 := 0) (ci := 9) (As := [.int 20]) (s_X9_began l D cI cZ cC cS sq H.size y y_trace (20) m_thrown m_status y_lane y_many y_item y_city y_fresh m_isThere y_tape m_taped m_latest m_length m_cursor m_token m_start m_till m_fault m_faultAt m_seen m_mirrors y_cost y_away y_fee y_goesTo y_priceWas y_isKept y_kept m_traced tr (by first | assumption | omega | decide | (rw [show Int32.toInt 0 = 0 from rfl]; omega))) S gX9_markOf_X9_began rfl hdV_X9_began ⟨Nat.le_of_ble_eq_true rfl, Nat.le_of_ble_eq_true rfl⟩ ⟨Nat.le_of_ble_eq_true rfl, Nat.le_of_ble_eq_true rfl⟩ hK hT hS hA hP hD rfl rfl [0, 1] rfl (by decide) rfl hl.1 rfl (Nat.le_of_ble_eq_true rfl) dX9_markOf_43) hP hD hS hA [0, 1] [2] rfl rfl (by decide) (by decide) (fun w_221 H locs hw_222 hP hD hS => ?_)
        obtain ⟨m_traced2_223, tr2_224, hf_225, rfl⟩ := hw_222
        have hP : va_P D vwCl [(y_city, .inl (cI, 192, .inl cy)), (y, .inr (9, [.int m_thrown, .int m_status, .ref y_lane, .ref y_many, .ref y_item, .ref y_city, .ref y_fresh, .int m_isThere, .ref y_tape, .int m_taped, .int m_latest, .int m_length, .int m_cursor, .int m_token, .int m_start, .int m_till, .int m_fault, .int m_faultAt, .int m_seen, .int m_mirrors, .ref y_cost, .ref y_away, .ref y_fee, .ref y_goesTo, .ref y_priceWas, .ref y_isKept, .ref y_kept, .ref y_trace, .int m_traced2_223])), (y_trace, .inl (cI, 16, .inl tr2_224))] H := hP
        have hD : va_D A [(y_city, .inl (cI, 192, .inl cy)), (y, .inr (9, [.int m_thrown, .int m_status, .ref y_lane, .ref y_many, .ref y_item, .ref y_city, .ref y_fresh, .int m_isThere, .ref y_tape, .int m_taped, .int m_latest, .int m_length, .int m_cursor, .int m_token, .int m_start, .int m_till, .int m_fault, .int m_faultAt, .int m_seen, .int m_mirrors, .ref y_cost, .ref y_away, .ref y_fee, .ref y_goesTo, .ref y_priceWas, .ref y_isKept, .ref y_kept, .ref y_trace, .int m_traced2_223])), (y_trace, .inl (cI, 16, .inl tr2_224))] := hD
        refine lv_iload_n S.1 S.2.1 dX9_markOf_46 rfl (lv_at hl 2 rfl) ?_
        refine lv_iconst (v := (4)) S.1 S.2.1 dX9_markOf_47 (by decide) ?_
        refine lv_icmp_ne (tgt := 59) S.1 S.2.1 dX9_markOf_48 (by decide) (fun c_226 => ?_) (fun c_226 => ?_)
        · rw [eq2 (a := kd) (b := 4) (A := kd.toInt) (B := 4) rfl rfl] at c_226
          refine lv_iload_n S.1 S.2.1 dX9_markOf_59 rfl (lv_at hl 2 rfl) ?_
          refine lv_iconst (v := (3)) S.1 S.2.1 dX9_markOf_60 (by decide) ?_
          refine b_ai (wr := [(y_city, .inl (cI, 192, .inl cy)), (y, .inr (9, [.int m_thrown, .int m_status, .ref y_lane, .ref y_many, .ref y_item, .ref y_city, .ref y_fresh, .int m_isThere, .ref y_tape, .int m_taped, .int m_latest, .int m_length, .int m_cursor, .int m_token, .int m_start, .int m_till, .int m_fault, .int m_faultAt, .int m_seen, .int m_mirrors, .ref y_cost, .ref y_away, .ref y_fee, .ref y_goesTo, .ref y_priceWas, .ref y_isKept, .ref y_kept, .ref y_trace, .int m_traced2_223])), (y_trace, .inl (cI, 16, .inl tr2_224))]) (b_runS (As := [.int kd, .int 3]) (s_X9_isOf2 l D cI cZ cC cS sq H.size kd (3)) S gX9_markOf_X9_isOf rfl hdS_X9_isOf ⟨Nat.le_of_ble_eq_true rfl, Nat.le_of_ble_eq_true rfl⟩ ⟨Nat.le_of_ble_eq_true rfl, Nat.le_of_ble_eq_true rfl⟩ hK hT hS hA hP hD [] rfl (by decide) rfl hl.1 rfl (Nat.le_of_ble_eq_true rfl) dX9_markOf_61) hP hD hS hA [] [0, 1, 2] rfl rfl (by decide) (by decide) (fun r_227 w_228 H locs hw_229 hP hD hS => ?_)
          rcases hw_229 with ⟨hf_230, rfl, rfl⟩ | ⟨hf_231, rfl, rfl⟩
          · have hf_230 : ((3) : Int) = 0 ∨ kd.toInt = ((3) : Int) ∨ (((3) : Int) = 3 ∧ kd.toInt = 5) ∨ (((3) : Int) = 2 ∧ (kd.toInt = 3 ∨ kd.toInt = 4 ∨ kd.toInt = 5)) := hf_230
            have hP : va_P D vwCl [(y_city, .inl (cI, 192, .inl cy)), (y, .inr (9, [.int m_thrown, .int m_status, .ref y_lane, .ref y_many, .ref y_item, .ref y_city, .ref y_fresh, .int m_isThere, .ref y_tape, .int m_taped, .int m_latest, .int m_length, .int m_cursor, .int m_token, .int m_start, .int m_till, .int m_fault, .int m_faultAt, .int m_seen, .int m_mirrors, .ref y_cost, .ref y_away, .ref y_fee, .ref y_goesTo, .ref y_priceWas, .ref y_isKept, .ref y_kept, .ref y_trace, .int m_traced2_223])), (y_trace, .inl (cI, 16, .inl tr2_224))] H := hP
            have hD : va_D A [(y_city, .inl (cI, 192, .inl cy)), (y, .inr (9, [.int m_thrown, .int m_status, .ref y_lane, .ref y_many, .ref y_item, .ref y_city, .ref y_fresh, .int m_isThere, .ref y_tape, .int m_taped, .int m_latest, .int m_length, .int m_cursor, .int m_token, .int m_start, .int m_till, .int m_fault, .int m_faultAt, .int m_seen, .int m_mirrors, .ref y_cost, .ref y_away, .ref y_fee, .ref y_goesTo, .ref y_priceWas, .ref y_isKept, .ref y_kept, .ref y_trace, .int m_traced2_223])), (y_trace, .inl (cI, 16, .inl tr2_224))] := hD
            refine lv_if_eq (tgt := 91) S.1 S.2.1 dX9_markOf_64 (by decide) (fun c_232 => absurd c_232 (by decide)) (fun c_232 => ?_)
            refine lv_iload_n S.1 S.2.1 dX9_markOf_67 rfl (lv_at hl 1 rfl) ?_
            refine lv_bipush (v := (100)) S.1 S.2.1 dX9_markOf_68 (by decide) ?_
            refine lv_aload_n S.1 S.2.1 dX9_markOf_70 rfl (lv_at hl 0 rfl) ?_
            refine b_get (v := .ref y_city) S iX9 hK hP 1 rfl rfl 5 (by decide) (by decide +kernel) rfl dX9_markOf_71 ?_
            refine lv_bipush (v := (84)) S.1 S.2.1 dX9_markOf_74 (by decide) ?_
            refine lv_aload_n S.1 S.2.1 dX9_markOf_76 rfl (lv_at hl 0 rfl) ?_
            refine b_get (v := .ref y_city) S iX9 hK hP 1 rfl rfl 5 (by decide) (by decide +kernel) rfl dX9_markOf_77 ?_
            refine lv_iconst (v := (4)) S.1 S.2.1 dX9_markOf_80 (by decide) ?_
            refine lv_iload_n S.1 S.2.1 dX9_markOf_81 rfl (lv_at hl 1 rfl) ?_
            refine lv_iadd S.1 S.2.1 dX9_markOf_82 ?_
            refine lv_topi (fun x_233 ex_233 => ?_)
            have tx_233 : x_233.toInt = 4 + (k.toInt) := addI (A := 4) (B := k.toInt) ex_233 rfl rfl (by omega) (by omega)
            have hin_234 : vp_in x_233 192 := (in_of (n := 192) (by omega) (by omega))
            refine va_iald S.1 S.2.1 hK.1 hP 0 0 rfl rfl hin_234 dX9_markOf_83 ?_
            refine lv_topi (fun x_235 ex_235 => ?_)
            have tx_235 := cyg_A (x := x_235) (show prd cyK 192 cy by assumption) (by omega) ex_235
            have bx_235 : x_235.toInt = (cy (4 + k.toInt.toNat)).toInt := by rw [ex_235, show (x_233).toNatClampNeg = 4 + k.toInt.toNat from by show (x_233).toInt.toNat = _; omega]
            refine lv_iadd S.1 S.2.1 dX9_markOf_84 ?_
            refine lv_topi (fun x_236 ex_236 => ?_)
            have tx_236 : x_236.toInt = 84 + (x_235.toInt) := addI (A := 84) (B := x_235.toInt) ex_236 rfl rfl (by omega) (by omega)
            have hin_237 : vp_in x_236 192 := (in_of (n := 192) (by omega) (by omega))
            refine va_iald S.1 S.2.1 hK.1 hP 0 0 rfl rfl hin_237 dX9_markOf_85 ?_
            refine lv_topi (fun x_238 ex_238 => ?_)
            have tx_238 := cyg_P (x := x_238) (show prd cyK 192 cy by assumption) (by omega) ex_238
            refine lv_imul S.1 S.2.1 dX9_markOf_86 ?_
            refine lv_topi (fun x_239 ex_239 => ?_)
            refine lv_iadd S.1 S.2.1 dX9_markOf_87 ?_
            refine lv_topi (fun x_240 ex_240 => ?_)
            refine lv_goto (tgt := 92) S.1 S.2.1 dX9_markOf_88 (by decide) ?_
            refine lv_istore_n (lv' := [(3, .int x_240), (0, .ref y), (1, .int k), (2, .int kd)]) S.1 S.2.1 dX9_markOf_92 rfl hl (by decide) rfl (fun ls hl => ?_)
            refine lv_iload_n S.1 S.2.1 dX9_markOf_93 rfl (lv_at hl 3 rfl) ?_
            refine lv_iconst (v := (5)) S.1 S.2.1 dX9_markOf_94 (by decide) ?_
            refine lv_icmp_ne (tgt := 106) S.1 S.2.1 dX9_markOf_95 (by decide) (fun c_241 => ?_) (fun c_241 => ?_)
            · rw [eq2 (a := kd) (b := 5) (A := kd.toInt) (B := 5) rfl rfl] at c_241
              refine lv_iload_n S.1 S.2.1 dX9_markOf_106 rfl (lv_at hl 0 rfl) ?_
              have hP := hP.sub (ws' := [(y, .inr (9, [.int m_thrown, .int m_status, .ref y_lane, .ref y_many, .ref y_item, .ref y_city, .ref y_fresh, .int m_isThere, .ref y_tape, .int m_taped, .int m_latest, .int m_length, .int m_cursor, .int m_token, .int m_start, .int m_till, .int m_fault, .int m_faultAt, .int m_seen, .int m_mirrors, .ref y_cost, .ref y_away, .ref y_fee, .ref y_goesTo, .ref y_priceWas, .ref y_isKept, .ref y_kept, .ref y_trace, .int m_traced2_223])), (y_trace, .inl (cI, 16, .inl tr2_224)), (y_city, .inl (cI, 192, .inl cy))]) [1, 2, 0] rfl
              have hD := hD.sub (ws' := [(y, .inr (9, [.int m_thrown, .int m_status, .ref y_lane, .ref y_many, .ref y_item, .ref y_city, .ref y_fresh, .int m_isThere, .ref y_tape, .int m_taped, .int m_latest, .int m_length, .int m_cursor, .int m_token, .int m_start, .int m_till, .int m_fault, .int m_faultAt, .int m_seen, .int m_mirrors, .ref y_cost, .ref y_away, .ref y_fee, .ref y_goesTo, .ref y_priceWas, .ref y_isKept, .ref y_kept, .ref y_trace, .int m_traced2_223])), (y_trace, .inl (cI, 16, .inl tr2_224)), (y_city, .inl (cI, 192, .inl cy))]) [1, 2, 0] (by decide) rfl
              exact b_iret S.1 S.2.1 X.2.1 X.2.2.1 hP hD hS ⟨m_traced2_223, tr2_224, (by first | assumption | omega | decide | (rw [show Int32.toInt 0 = 0 from rfl]; omega)), rfl⟩ dX9_markOf_107
            · rw [eq2 (a := kd) (b := 5) (A := kd.toInt) (B := 5) rfl rfl] at c_241
              refine lv_iload_n S.1 S.2.1 dX9_markOf_98 rfl (lv_at hl 0 rfl) ?_
              refine lv_sipush (v := (1000)) S.1 S.2.1 dX9_markOf_99 (by decide) ?_
              refine lv_isub S.1 S.2.1 dX9_markOf_102 ?_
              refine lv_topi (fun x_242 ex_242 => ?_)
              refine lv_goto (tgt := 107) S.1 S.2.1 dX9_markOf_103 (by decide) ?_
              have hP := hP.sub (ws' := [(y, .inr (9, [.int m_thrown, .int m_status, .ref y_lane, .ref y_many, .ref y_item, .ref y_city, .ref y_fresh, .int m_isThere, .ref y_tape, .int m_taped, .int m_latest, .int m_length, .int m_cursor, .int m_token, .int m_start, .int m_till, .int m_fault, .int m_faultAt, .int m_seen, .int m_mirrors, .ref y_cost, .ref y_away, .ref y_fee, .ref y_goesTo, .ref y_priceWas, .ref y_isKept, .ref y_kept, .ref y_trace, .int m_traced2_223])), (y_trace, .inl (cI, 16, .inl tr2_224)), (y_city, .inl (cI, 192, .inl cy))]) [1, 2, 0] rfl
              have hD := hD.sub (ws' := [(y, .inr (9, [.int m_thrown, .int m_status, .ref y_lane, .ref y_many, .ref y_item, .ref y_city, .ref y_fresh, .int m_isThere, .ref y_tape, .int m_taped, .int m_latest, .int m_length, .int m_cursor, .int m_token, .int m_start, .int m_till, .int m_fault, .int m_faultAt, .int m_seen, .int m_mirrors, .ref y_cost, .ref y_away, .ref y_fee, .ref y_goesTo, .ref y_priceWas, .ref y_isKept, .ref y_kept, .ref y_trace, .int m_traced2_223])), (y_trace, .inl (cI, 16, .inl tr2_224)), (y_city, .inl (cI, 192, .inl cy))]) [1, 2, 0] (by decide) rfl
              exact b_iret S.1 S.2.1 X.2.1 X.2.2.1 hP hD hS ⟨m_traced2_223, tr2_224, (by first | assumption | omega | decide | (rw [show Int32.toInt 0 = 0 from rfl]; omega)), rfl⟩ dX9_markOf_107
          · have hf_231 : ¬ (((3) : Int) = 0 ∨ kd.toInt = ((3) : Int) ∨ (((3) : Int) = 3 ∧ kd.toInt = 5) ∨ (((3) : Int) = 2 ∧ (kd.toInt = 3 ∨ kd.toInt = 4 ∨ kd.toInt = 5))) := hf_231
            have hP : va_P D vwCl [(y_city, .inl (cI, 192, .inl cy)), (y, .inr (9, [.int m_thrown, .int m_status, .ref y_lane, .ref y_many, .ref y_item, .ref y_city, .ref y_fresh, .int m_isThere, .ref y_tape, .int m_taped, .int m_latest, .int m_length, .int m_cursor, .int m_token, .int m_start, .int m_till, .int m_fault, .int m_faultAt, .int m_seen, .int m_mirrors, .ref y_cost, .ref y_away, .ref y_fee, .ref y_goesTo, .ref y_priceWas, .ref y_isKept, .ref y_kept, .ref y_trace, .int m_traced2_223])), (y_trace, .inl (cI, 16, .inl tr2_224))] H := hP
            have hD : va_D A [(y_city, .inl (cI, 192, .inl cy)), (y, .inr (9, [.int m_thrown, .int m_status, .ref y_lane, .ref y_many, .ref y_item, .ref y_city, .ref y_fresh, .int m_isThere, .ref y_tape, .int m_taped, .int m_latest, .int m_length, .int m_cursor, .int m_token, .int m_start, .int m_till, .int m_fault, .int m_faultAt, .int m_seen, .int m_mirrors, .ref y_cost, .ref y_away, .ref y_fee, .ref y_goesTo, .ref y_priceWas, .ref y_isKept, .ref y_kept, .ref y_trace, .int m_traced2_223])), (y_trace, .inl (cI, 16, .inl tr2_224))] := hD
            refine lv_if_eq (tgt := 91) S.1 S.2.1 dX9_markOf_64 (by decide) (fun c_243 => ?_) (fun c_243 => absurd c_243 (by decide))
            refine lv_iload_n S.1 S.2.1 dX9_markOf_91 rfl (lv_at hl 1 rfl) ?_
            refine lv_istore_n (lv' := [(3, .int k), (0, .ref y), (1, .int k), (2, .int kd)]) S.1 S.2.1 dX9_markOf_92 rfl hl (by decide) rfl (fun ls hl => ?_)
            refine lv_iload_n S.1 S.2.1 dX9_markOf_93 rfl (lv_at hl 3 rfl) ?_
            refine lv_iconst (v := (5)) S.1 S.2.1 dX9_markOf_94 (by decide) ?_
            refine lv_icmp_ne (tgt := 106) S.1 S.2.1 dX9_markOf_95 (by decide) (fun c_244 => ?_) (fun c_244 => ?_)
            · rw [eq2 (a := kd) (b := 5) (A := kd.toInt) (B := 5) rfl rfl] at c_244
              refine lv_iload_n S.1 S.2.1 dX9_markOf_106 rfl (lv_at hl 0 rfl) ?_
              have hP := hP.sub (ws' := [(y, .inr (9, [.int m_thrown, .int m_status, .ref y_lane, .ref y_many, .ref y_item, .ref y_city, .ref y_fresh, .int m_isThere, .ref y_tape, .int m_taped, .int m_latest, .int m_length, .int m_cursor, .int m_token, .int m_start, .int m_till, .int m_fault, .int m_faultAt, .int m_seen, .int m_mirrors, .ref y_cost, .ref y_away, .ref y_fee, .ref y_goesTo, .ref y_priceWas, .ref y_isKept, .ref y_kept, .ref y_trace, .int m_traced2_223])), (y_trace, .inl (cI, 16, .inl tr2_224)), (y_city, .inl (cI, 192, .inl cy))]) [1, 2, 0] rfl
              have hD := hD.sub (ws' := [(y, .inr (9, [.int m_thrown, .int m_status, .ref y_lane, .ref y_many, .ref y_item, .ref y_city, .ref y_fresh, .int m_isThere, .ref y_tape, .int m_taped, .int m_latest, .int m_length, .int m_cursor, .int m_token, .int m_start, .int m_till, .int m_fault, .int m_faultAt, .int m_seen, .int m_mirrors, .ref y_cost, .ref y_away, .ref y_fee, .ref y_goesTo, .ref y_priceWas, .ref y_isKept, .ref y_kept, .ref y_trace, .int m_traced2_223])), (y_trace, .inl (cI, 16, .inl tr2_224)), (y_city, .inl (cI, 192, .inl cy))]) [1, 2, 0] (by decide) rfl
              exact b_iret S.1 S.2.1 X.2.1 X.2.2.1 hP hD hS ⟨m_traced2_223, tr2_224, (by first | assumption | omega | decide | (rw [show Int32.toInt 0 = 0 from rfl]; omega)), rfl⟩ dX9_markOf_107
            · rw [eq2 (a := kd) (b := 5) (A := kd.toInt) (B := 5) rfl rfl] at c_244
              refine lv_iload_n S.1 S.2.1 dX9_markOf_98 rfl (lv_at hl 0 rfl) ?_
              refine lv_sipush (v := (1000)) S.1 S.2.1 dX9_markOf_99 (by decide) ?_
              refine lv_isub S.1 S.2.1 dX9_markOf_102 ?_
              refine lv_topi (fun x_245 ex_245 => ?_)
              refine lv_goto (tgt := 107) S.1 S.2.1 dX9_markOf_103 (by decide) ?_
              have hP := hP.sub (ws' := [(y, .inr (9, [.int m_thrown, .int m_status, .ref y_lane, .ref y_many, .ref y_item, .ref y_city, .ref y_fresh, .int m_isThere, .ref y_tape, .int m_taped, .int m_latest, .int m_length, .int m_cursor, .int m_token, .int m_start, .int m_till, .int m_fault, .int m_faultAt, .int m_seen, .int m_mirrors, .ref y_cost, .ref y_away, .ref y_fee, .ref y_goesTo, .ref y_priceWas, .ref y_isKept, .ref y_kept, .ref y_trace, .int m_traced2_223])), (y_trace, .inl (cI, 16, .inl tr2_224)), (y_city, .inl (cI, 192, .inl cy))]) [1, 2, 0] rfl
              have hD := hD.sub (ws' := [(y, .inr (9, [.int m_thrown, .int m_status, .ref y_lane, .ref y_many, .ref y_item, .ref y_city, .ref y_fresh, .int m_isThere, .ref y_tape, .int m_taped, .int m_latest, .int m_length, .int m_cursor, .int m_token, .int m_start, .int m_till, .int m_fault, .int m_faultAt, .int m_seen, .int m_mirrors, .ref y_cost, .ref y_away, .ref y_fee, .ref y_goesTo, .ref y_priceWas, .ref y_isKept, .ref y_kept, .ref y_trace, .int m_traced2_223])), (y_trace, .inl (cI, 16, .inl tr2_224)), (y_city, .inl (cI, 192, .inl cy))]) [1, 2, 0] (by decide) rfl
              exact b_iret S.1 S.2.1 X.2.1 X.2.2.1 hP hD hS ⟨m_traced2_223, tr2_224, (by first | assumption | omega | decide | (rw [show Int32.toInt 0 = 0 from rfl]; omega)), rfl⟩ dX9_markOf_107
        · rw [eq2 (a := kd) (b := 4) (A := kd.toInt) (B := 4) rfl rfl] at c_226
          refine lv_iload_n S.1 S.2.1 dX9_markOf_51 rfl (lv_at hl 1 rfl) ?_
          refine lv_aload_n S.1 S.2.1 dX9_markOf_52 rfl (lv_at hl 0 rfl) ?_
          refine lv_iload_n S.1 S.2.1 dX9_markOf_53 rfl (lv_at hl 1 rfl) ?_
          refine b_ai (wr := []) (b_runV (q0 := 1) (ci := 9) (As := [.int k]) (s_X9_wallSize l D cI cZ cC cS sq H.size y y_trace y_city k m_thrown m_status y_lane y_many y_item y_fresh m_isThere y_tape m_taped m_latest m_length m_cursor m_token m_start m_till m_fault m_faultAt m_seen m_mirrors y_cost y_away y_fee y_goesTo y_priceWas y_isKept y_kept m_traced2_223 tr2_224 cy (by first | assumption | omega | decide | (rw [show Int32.toInt 0 = 0 from rfl]; omega)) (by first | assumption | omega | decide | (rw [show Int32.toInt 0 = 0 from rfl]; omega)) (by first | assumption | omega | decide | (rw [show Int32.toInt 0 = 0 from rfl]; omega))) S gX9_markOf_X9_wallSize rfl hdV_X9_wallSize ⟨Nat.le_of_ble_eq_true rfl, Nat.le_of_ble_eq_true rfl⟩ ⟨Nat.le_of_ble_eq_true rfl, Nat.le_of_ble_eq_true rfl⟩ hK hT hS hA hP hD rfl rfl [1, 2, 0] rfl (by decide) rfl hl.1 rfl (Nat.le_of_ble_eq_true rfl) dX9_markOf_54) hP hD hS hA [1, 2, 0] [] rfl rfl (by decide) (by decide) (fun r_246 w_247 H locs hw_248 hP hD hS => ?_)
          obtain ⟨m_traced2_249, tr2_250, hf_251, rfl⟩ := hw_248
          have hP : va_P D vwCl [(y, .inr (9, [.int m_thrown, .int m_status, .ref y_lane, .ref y_many, .ref y_item, .ref y_city, .ref y_fresh, .int m_isThere, .ref y_tape, .int m_taped, .int m_latest, .int m_length, .int m_cursor, .int m_token, .int m_start, .int m_till, .int m_fault, .int m_faultAt, .int m_seen, .int m_mirrors, .ref y_cost, .ref y_away, .ref y_fee, .ref y_goesTo, .ref y_priceWas, .ref y_isKept, .ref y_kept, .ref y_trace, .int m_traced2_249])), (y_trace, .inl (cI, 16, .inl tr2_250)), (y_city, .inl (cI, 192, .inl cy))] H := hP
          have hD : va_D A [(y, .inr (9, [.int m_thrown, .int m_status, .ref y_lane, .ref y_many, .ref y_item, .ref y_city, .ref y_fresh, .int m_isThere, .ref y_tape, .int m_taped, .int m_latest, .int m_length, .int m_cursor, .int m_token, .int m_start, .int m_till, .int m_fault, .int m_faultAt, .int m_seen, .int m_mirrors, .ref y_cost, .ref y_away, .ref y_fee, .ref y_goesTo, .ref y_priceWas, .ref y_isKept, .ref y_kept, .ref y_trace, .int m_traced2_249])), (y_trace, .inl (cI, 16, .inl tr2_250)), (y_city, .inl (cI, 192, .inl cy))] := hD
          refine lv_iadd S.1 S.2.1 dX9_markOf_57 ?_
          refine lv_topi (fun x_252 ex_252 => ?_)
          exact b_iret S.1 S.2.1 X.2.1 X.2.2.1 hP hD hS ⟨m_traced2_249, tr2_250, (by first | assumption | omega | decide | (rw [show Int32.toInt 0 = 0 from rfl]; omega)), rfl⟩ dX9_markOf_58
    · rw [eq2 (a := kd) (b := 4) (A := kd.toInt) (B := 4) rfl rfl] at c_173
      refine lv_aload_n S.1 S.2.1 dX9_markOf_10 rfl (lv_at hl 0 rfl) ?_
      refine lv_iload_n S.1 S.2.1 dX9_markOf_11 rfl (lv_at hl 2 rfl) ?_
      refine lv_iconst (v := (5)) S.1 S.2.1 dX9_markOf_12 (by decide) ?_
      refine lv_icmp_ne (tgt := 21) S.1 S.2.1 dX9_markOf_13 (by decide) (fun c_253 => ?_) (fun c_253 => ?_)
      · rw [eq2 (a := kd) (b := 5) (A := kd.toInt) (B := 5) rfl rfl] at c_253
        refine lv_bipush (v := (22)) S.1 S.2.1 dX9_markOf_21 (by decide) ?_
        refine b_av (wr := [(y_city, .inl (cI, 192, .inl cy))]) (b_runV (q0 := 0) (ci := 9) (As := [.int 22]) (s_X9_began l D cI cZ cC cS sq H.size y y_trace (22) m_thrown m_status y_lane y_many y_item y_city y_fresh m_isThere y_tape m_taped m_latest m_length m_cursor m_token m_start m_till m_fault m_faultAt m_seen m_mirrors y_cost y_away y_fee y_goesTo y_priceWas y_isKept y_kept m_traced tr (by first | assumption | omega | decide | (rw [show Int32.toInt 0 = 0 from rfl]; omega))) S gX9_markOf_X9_began rfl hdV_X9_began ⟨Nat.le_of_ble_eq_true rfl, Nat.le_of_ble_eq_true rfl⟩ ⟨Nat.le_of_ble_eq_true rfl, Nat.le_of_ble_eq_true rfl⟩ hK hT hS hA hP hD rfl rfl [0, 1] rfl (by decide) rfl hl.1 rfl (Nat.le_of_ble_eq_true rfl) dX9_markOf_23) hP hD hS hA [0, 1] [2] rfl rfl (by decide) (by decide) (fun w_255 H locs hw_256 hP hD hS => ?_)
        obtain ⟨m_traced2_257, tr2_258, hf_259, rfl⟩ := hw_256
        have hP : va_P D vwCl [(y_city, .inl (cI, 192, .inl cy)), (y, .inr (9, [.int m_thrown, .int m_status, .ref y_lane, .ref y_many, .ref y_item, .ref y_city, .ref y_fresh, .int m_isThere, .ref y_tape, .int m_taped, .int m_latest, .int m_length, .int m_cursor, .int m_token, .int m_start, .int m_till, .int m_fault, .int m_faultAt, .int m_seen, .int m_mirrors, .ref y_cost, .ref y_away, .ref y_fee, .ref y_goesTo, .ref y_priceWas, .ref y_isKept, .ref y_kept, .ref y_trace, .int m_traced2_257])), (y_trace, .inl (cI, 16, .inl tr2_258))] H := hP
        have hD : va_D A [(y_city, .inl (cI, 192, .inl cy)), (y, .inr (9, [.int m_thrown, .int m_status, .ref y_lane, .ref y_many, .ref y_item, .ref y_city, .ref y_fresh, .int m_isThere, .ref y_tape, .int m_taped, .int m_latest, .int m_length, .int m_cursor, .int m_token, .int m_start, .int m_till, .int m_fault, .int m_faultAt, .int m_seen, .int m_mirrors, .ref y_cost, .ref y_away, .ref y_fee, .ref y_goesTo, .ref y_priceWas, .ref y_isKept, .ref y_kept, .ref y_trace, .int m_traced2_257])), (y_trace, .inl (cI, 16, .inl tr2_258))] := hD
        refine lv_iload_n S.1 S.2.1 dX9_markOf_26 rfl (lv_at hl 2 rfl) ?_
        refine lv_iconst (v := (3)) S.1 S.2.1 dX9_markOf_27 (by decide) ?_
        refine b_ai (wr := [(y_city, .inl (cI, 192, .inl cy)), (y, .inr (9, [.int m_thrown, .int m_status, .ref y_lane, .ref y_many, .ref y_item, .ref y_city, .ref y_fresh, .int m_isThere, .ref y_tape, .int m_taped, .int m_latest, .int m_length, .int m_cursor, .int m_token, .int m_start, .int m_till, .int m_fault, .int m_faultAt, .int m_seen, .int m_mirrors, .ref y_cost, .ref y_away, .ref y_fee, .ref y_goesTo, .ref y_priceWas, .ref y_isKept, .ref y_kept, .ref y_trace, .int m_traced2_257])), (y_trace, .inl (cI, 16, .inl tr2_258))]) (b_runS (As := [.int kd, .int 3]) (s_X9_isOf2 l D cI cZ cC cS sq H.size kd (3)) S gX9_markOf_X9_isOf rfl hdS_X9_isOf ⟨Nat.le_of_ble_eq_true rfl, Nat.le_of_ble_eq_true rfl⟩ ⟨Nat.le_of_ble_eq_true rfl, Nat.le_of_ble_eq_true rfl⟩ hK hT hS hA hP hD [] rfl (by decide) rfl hl.1 rfl (Nat.le_of_ble_eq_true rfl) dX9_markOf_28) hP hD hS hA [] [0, 1, 2] rfl rfl (by decide) (by decide) (fun r_260 w_261 H locs hw_262 hP hD hS => ?_)
        rcases hw_262 with ⟨hf_263, rfl, rfl⟩ | ⟨hf_264, rfl, rfl⟩
        · have hf_263 : ((3) : Int) = 0 ∨ kd.toInt = ((3) : Int) ∨ (((3) : Int) = 3 ∧ kd.toInt = 5) ∨ (((3) : Int) = 2 ∧ (kd.toInt = 3 ∨ kd.toInt = 4 ∨ kd.toInt = 5)) := hf_263
          have hP : va_P D vwCl [(y_city, .inl (cI, 192, .inl cy)), (y, .inr (9, [.int m_thrown, .int m_status, .ref y_lane, .ref y_many, .ref y_item, .ref y_city, .ref y_fresh, .int m_isThere, .ref y_tape, .int m_taped, .int m_latest, .int m_length, .int m_cursor, .int m_token, .int m_start, .int m_till, .int m_fault, .int m_faultAt, .int m_seen, .int m_mirrors, .ref y_cost, .ref y_away, .ref y_fee, .ref y_goesTo, .ref y_priceWas, .ref y_isKept, .ref y_kept, .ref y_trace, .int m_traced2_257])), (y_trace, .inl (cI, 16, .inl tr2_258))] H := hP
          have hD : va_D A [(y_city, .inl (cI, 192, .inl cy)), (y, .inr (9, [.int m_thrown, .int m_status, .ref y_lane, .ref y_many, .ref y_item, .ref y_city, .ref y_fresh, .int m_isThere, .ref y_tape, .int m_taped, .int m_latest, .int m_length, .int m_cursor, .int m_token, .int m_start, .int m_till, .int m_fault, .int m_faultAt, .int m_seen, .int m_mirrors, .ref y_cost, .ref y_away, .ref y_fee, .ref y_goesTo, .ref y_priceWas, .ref y_isKept, .ref y_kept, .ref y_trace, .int m_traced2_257])), (y_trace, .inl (cI, 16, .inl tr2_258))] := hD
          refine lv_if_eq (tgt := 40) S.1 S.2.1 dX9_markOf_31 (by decide) (fun c_265 => absurd c_265 (by decide)) (fun c_265 => ?_)
          refine lv_aload_n S.1 S.2.1 dX9_markOf_34 rfl (lv_at hl 0 rfl) ?_
          refine lv_bipush (v := (21)) S.1 S.2.1 dX9_markOf_35 (by decide) ?_
          refine b_av (wr := [(y_city, .inl (cI, 192, .inl cy))]) (b_runV (q0 := 1) (ci := 9) (As := [.int 21]) (s_X9_began l D cI cZ cC cS sq H.size y y_trace (21) m_thrown m_status y_lane y_many y_item y_city y_fresh m_isThere y_tape m_taped m_latest m_length m_cursor m_token m_start m_till m_fault m_faultAt m_seen m_mirrors y_cost y_away y_fee y_goesTo y_priceWas y_isKept y_kept m_traced2_257 tr2_258 (by first | assumption | omega | decide | (rw [show Int32.toInt 0 = 0 from rfl]; omega))) S gX9_markOf_X9_began rfl hdV_X9_began ⟨Nat.le_of_ble_eq_true rfl, Nat.le_of_ble_eq_true rfl⟩ ⟨Nat.le_of_ble_eq_true rfl, Nat.le_of_ble_eq_true rfl⟩ hK hT hS hA hP hD rfl rfl [1, 2] rfl (by decide) rfl hl.1 rfl (Nat.le_of_ble_eq_true rfl) dX9_markOf_37) hP hD hS hA [1, 2] [0] rfl rfl (by decide) (by decide) (fun w_267 H locs hw_268 hP hD hS => ?_)
          obtain ⟨m_traced2_269, tr2_270, hf_271, rfl⟩ := hw_268
          have hP : va_P D vwCl [(y_city, .inl (cI, 192, .inl cy)), (y, .inr (9, [.int m_thrown, .int m_status, .ref y_lane, .ref y_many, .ref y_item, .ref y_city, .ref y_fresh, .int m_isThere, .ref y_tape, .int m_taped, .int m_latest, .int m_length, .int m_cursor, .int m_token, .int m_start, .int m_till, .int m_fault, .int m_faultAt, .int m_seen, .int m_mirrors, .ref y_cost, .ref y_away, .ref y_fee, .ref y_goesTo, .ref y_priceWas, .ref y_isKept, .ref y_kept, .ref y_trace, .int m_traced2_269])), (y_trace, .inl (cI, 16, .inl tr2_270))] H := hP
          have hD : va_D A [(y_city, .inl (cI, 192, .inl cy)), (y, .inr (9, [.int m_thrown, .int m_status, .ref y_lane, .ref y_many, .ref y_item, .ref y_city, .ref y_fresh, .int m_isThere, .ref y_tape, .int m_taped, .int m_latest, .int m_length, .int m_cursor, .int m_token, .int m_start, .int m_till, .int m_fault, .int m_faultAt, .int m_seen, .int m_mirrors, .ref y_cost, .ref y_away, .ref y_fee, .ref y_goesTo, .ref y_priceWas, .ref y_isKept, .ref y_kept, .ref y_trace, .int m_traced2_269])), (y_trace, .inl (cI, 16, .inl tr2_270))] := hD
          refine lv_aload_n S.1 S.2.1 dX9_markOf_40 rfl (lv_at hl 0 rfl) ?_
          refine lv_bipush (v := (20)) S.1 S.2.1 dX9_markOf_41 (by decide) ?_
          refine b_av (wr := [(y_city, .inl (cI, 192, .inl cy))]) (b_runV (q0 := 1) (ci := 9) (As := [.int 20]) (s_X9_began l D cI cZ cC cS sq H.size y y_trace (20) m_thrown m_status y_lane y_many y_item y_city y_fresh m_isThere y_tape m_taped m_latest m_length m_cursor m_token m_start m_till m_fault m_faultAt m_seen m_mirrors y_cost y_away y_fee y_goesTo y_priceWas y_isKept y_kept m_traced2_269 tr2_270 (by first | assumption | omega | decide | (rw [show Int32.toInt 0 = 0 from rfl]; omega))) S gX9_markOf_X9_began rfl hdV_X9_began ⟨Nat.le_of_ble_eq_true rfl, Nat.le_of_ble_eq_true rfl⟩ ⟨Nat.le_of_ble_eq_true rfl, Nat.le_of_ble_eq_true rfl⟩ hK hT hS hA hP hD rfl rfl [1, 2] rfl (by decide) rfl hl.1 rfl (Nat.le_of_ble_eq_true rfl) dX9_markOf_43) hP hD hS hA [1, 2] [0] rfl rfl (by decide) (by decide) (fun w_273 H locs hw_274 hP hD hS => ?_)
          obtain ⟨m_traced2_275, tr2_276, hf_277, rfl⟩ := hw_274
          have hP : va_P D vwCl [(y_city, .inl (cI, 192, .inl cy)), (y, .inr (9, [.int m_thrown, .int m_status, .ref y_lane, .ref y_many, .ref y_item, .ref y_city, .ref y_fresh, .int m_isThere, .ref y_tape, .int m_taped, .int m_latest, .int m_length, .int m_cursor, .int m_token, .int m_start, .int m_till, .int m_fault, .int m_faultAt, .int m_seen, .int m_mirrors, .ref y_cost, .ref y_away, .ref y_fee, .ref y_goesTo, .ref y_priceWas, .ref y_isKept, .ref y_kept, .ref y_trace, .int m_traced2_275])), (y_trace, .inl (cI, 16, .inl tr2_276))] H := hP
          have hD : va_D A [(y_city, .inl (cI, 192, .inl cy)), (y, .inr (9, [.int m_thrown, .int m_status, .ref y_lane, .ref y_many, .ref y_item, .ref y_city, .ref y_fresh, .int m_isThere, .ref y_tape, .int m_taped, .int m_latest, .int m_length, .int m_cursor, .int m_token, .int m_start, .int m_till, .int m_fault, .int m_faultAt, .int m_seen, .int m_mirrors, .ref y_cost, .ref y_away, .ref y_fee, .ref y_goesTo, .ref y_priceWas, .ref y_isKept, .ref y_kept, .ref y_trace, .int m_traced2_275])), (y_trace, .inl (cI, 16, .inl tr2_276))] := hD
          refine lv_iload_n S.1 S.2.1 dX9_markOf_46 rfl (lv_at hl 2 rfl) ?_
          refine lv_iconst (v := (4)) S.1 S.2.1 dX9_markOf_47 (by decide) ?_
          refine lv_icmp_ne (tgt := 59) S.1 S.2.1 dX9_markOf_48 (by decide) (fun c_278 => ?_) (fun c_278 => ?_)
          · rw [eq2 (a := kd) (b := 4) (A := kd.toInt) (B := 4) rfl rfl] at c_278
            refine lv_iload_n S.1 S.2.1 dX9_markOf_59 rfl (lv_at hl 2 rfl) ?_
            refine lv_iconst (v := (3)) S.1 S.2.1 dX9_markOf_60 (by decide) ?_
            refine b_ai (wr := [(y_city, .inl (cI, 192, .inl cy)), (y, .inr (9, [.int m_thrown, .int m_status, .ref y_lane, .ref y_many, .ref y_item, .ref y_city, .ref y_fresh, .int m_isThere, .ref y_tape, .int m_taped, .int m_latest, .int m_length, .int m_cursor, .int m_token, .int m_start, .int m_till, .int m_fault, .int m_faultAt, .int m_seen, .int m_mirrors, .ref y_cost, .ref y_away, .ref y_fee, .ref y_goesTo, .ref y_priceWas, .ref y_isKept, .ref y_kept, .ref y_trace, .int m_traced2_275])), (y_trace, .inl (cI, 16, .inl tr2_276))]) (b_runS (As := [.int kd, .int 3]) (s_X9_isOf2 l D cI cZ cC cS sq H.size kd (3)) S gX9_markOf_X9_isOf rfl hdS_X9_isOf ⟨Nat.le_of_ble_eq_true rfl, Nat.le_of_ble_eq_true rfl⟩ ⟨Nat.le_of_ble_eq_true rfl, Nat.le_of_ble_eq_true rfl⟩ hK hT hS hA hP hD [] rfl (by decide) rfl hl.1 rfl (Nat.le_of_ble_eq_true rfl) dX9_markOf_61) hP hD hS hA [] [0, 1, 2] rfl rfl (by decide) (by decide) (fun r_279 w_280 H locs hw_281 hP hD hS => ?_)
            rcases hw_281 with ⟨hf_282, rfl, rfl⟩ | ⟨hf_283, rfl, rfl⟩
            · have hf_282 : ((3) : Int) = 0 ∨ kd.toInt = ((3) : Int) ∨ (((3) : Int) = 3 ∧ kd.toInt = 5) ∨ (((3) : Int) = 2 ∧ (kd.toInt = 3 ∨ kd.toInt = 4 ∨ kd.toInt = 5)) := hf_282
              have hP : va_P D vwCl [(y_city, .inl (cI, 192, .inl cy)), (y, .inr (9, [.int m_thrown, .int m_status, .ref y_lane, .ref y_many, .ref y_item, .ref y_city, .ref y_fresh, .int m_isThere, .ref y_tape, .int m_taped, .int m_latest, .int m_length, .int m_cursor, .int m_token, .int m_start, .int m_till, .int m_fault, .int m_faultAt, .int m_seen, .int m_mirrors, .ref y_cost, .ref y_away, .ref y_fee, .ref y_goesTo, .ref y_priceWas, .ref y_isKept, .ref y_kept, .ref y_trace, .int m_traced2_275])), (y_trace, .inl (cI, 16, .inl tr2_276))] H := hP
              have hD : va_D A [(y_city, .inl (cI, 192, .inl cy)), (y, .inr (9, [.int m_thrown, .int m_status, .ref y_lane, .ref y_many, .ref y_item, .ref y_city, .ref y_fresh, .int m_isThere, .ref y_tape, .int m_taped, .int m_latest, .int m_length, .int m_cursor, .int m_token, .int m_start, .int m_till, .int m_fault, .int m_faultAt, .int m_seen, .int m_mirrors, .ref y_cost, .ref y_away, .ref y_fee, .ref y_goesTo, .ref y_priceWas, .ref y_isKept, .ref y_kept, .ref y_trace, .int m_traced2_275])), (y_trace, .inl (cI, 16, .inl tr2_276))] := hD
              refine lv_if_eq (tgt := 91) S.1 S.2.1 dX9_markOf_64 (by decide) (fun c_284 => absurd c_284 (by decide)) (fun c_284 => ?_)
              refine lv_iload_n S.1 S.2.1 dX9_markOf_67 rfl (lv_at hl 1 rfl) ?_
              refine lv_bipush (v := (100)) S.1 S.2.1 dX9_markOf_68 (by decide) ?_
              refine lv_aload_n S.1 S.2.1 dX9_markOf_70 rfl (lv_at hl 0 rfl) ?_
              refine b_get (v := .ref y_city) S iX9 hK hP 1 rfl rfl 5 (by decide) (by decide +kernel) rfl dX9_markOf_71 ?_
              refine lv_bipush (v := (84)) S.1 S.2.1 dX9_markOf_74 (by decide) ?_
              refine lv_aload_n S.1 S.2.1 dX9_markOf_76 rfl (lv_at hl 0 rfl) ?_
              refine b_get (v := .ref y_city) S iX9 hK hP 1 rfl rfl 5 (by decide) (by decide +kernel) rfl dX9_markOf_77 ?_
              refine lv_iconst (v := (4)) S.1 S.2.1 dX9_markOf_80 (by decide) ?_
              refine lv_iload_n S.1 S.2.1 dX9_markOf_81 rfl (lv_at hl 1 rfl) ?_
              refine lv_iadd S.1 S.2.1 dX9_markOf_82 ?_
              refine lv_topi (fun x_285 ex_285 => ?_)
              have tx_285 : x_285.toInt = 4 + (k.toInt) := addI (A := 4) (B := k.toInt) ex_285 rfl rfl (by omega) (by omega)
              have hin_286 : vp_in x_285 192 := (in_of (n := 192) (by omega) (by omega))
              refine va_iald S.1 S.2.1 hK.1 hP 0 0 rfl rfl hin_286 dX9_markOf_83 ?_
              refine lv_topi (fun x_287 ex_287 => ?_)
              have tx_287 := cyg_A (x := x_287) (show prd cyK 192 cy by assumption) (by omega) ex_287
              have bx_287 : x_287.toInt = (cy (4 + k.toInt.toNat)).toInt := by rw [ex_287, show (x_285).toNatClampNeg = 4 + k.toInt.toNat from by show (x_285).toInt.toNat = _; omega]
              refine lv_iadd S.1 S.2.1 dX9_markOf_84 ?_
              refine lv_topi (fun x_288 ex_288 => ?_)
              have tx_288 : x_288.toInt = 84 + (x_287.toInt) := addI (A := 84) (B := x_287.toInt) ex_288 rfl rfl (by omega) (by omega)
              have hin_289 : vp_in x_288 192 := (in_of (n := 192) (by omega) (by omega))
              refine va_iald S.1 S.2.1 hK.1 hP 0 0 rfl rfl hin_289 dX9_markOf_85 ?_
              refine lv_topi (fun x_290 ex_290 => ?_)
              have tx_290 := cyg_P (x := x_290) (show prd cyK 192 cy by assumption) (by omega) ex_290
              refine lv_imul S.1 S.2.1 dX9_markOf_86 ?_
              refine lv_topi (fun x_291 ex_291 => ?_)
              refine lv_iadd S.1 S.2.1 dX9_markOf_87 ?_
              refine lv_topi (fun x_292 ex_292 => ?_)
              refine lv_goto (tgt := 92) S.1 S.2.1 dX9_markOf_88 (by decide) ?_
              refine lv_istore_n (lv' := [(3, .int x_292), (0, .ref y), (1, .int k), (2, .int kd)]) S.1 S.2.1 dX9_markOf_92 rfl hl (by decide) rfl (fun ls hl => ?_)
              refine lv_iload_n S.1 S.2.1 dX9_markOf_93 rfl (lv_at hl 3 rfl) ?_
              refine lv_iconst (v := (5)) S.1 S.2.1 dX9_markOf_94 (by decide) ?_
              refine lv_icmp_ne (tgt := 106) S.1 S.2.1 dX9_markOf_95 (by decide) (fun c_293 => ?_) (fun c_293 => ?_)
              · rw [eq2 (a := kd) (b := 5) (A := kd.toInt) (B := 5) rfl rfl] at c_293
                refine lv_iload_n S.1 S.2.1 dX9_markOf_106 rfl (lv_at hl 0 rfl) ?_
                have hP := hP.sub (ws' := [(y, .inr (9, [.int m_thrown, .int m_status, .ref y_lane, .ref y_many, .ref y_item, .ref y_city, .ref y_fresh, .int m_isThere, .ref y_tape, .int m_taped, .int m_latest, .int m_length, .int m_cursor, .int m_token, .int m_start, .int m_till, .int m_fault, .int m_faultAt, .int m_seen, .int m_mirrors, .ref y_cost, .ref y_away, .ref y_fee, .ref y_goesTo, .ref y_priceWas, .ref y_isKept, .ref y_kept, .ref y_trace, .int m_traced2_275])), (y_trace, .inl (cI, 16, .inl tr2_276)), (y_city, .inl (cI, 192, .inl cy))]) [1, 2, 0] rfl
                have hD := hD.sub (ws' := [(y, .inr (9, [.int m_thrown, .int m_status, .ref y_lane, .ref y_many, .ref y_item, .ref y_city, .ref y_fresh, .int m_isThere, .ref y_tape, .int m_taped, .int m_latest, .int m_length, .int m_cursor, .int m_token, .int m_start, .int m_till, .int m_fault, .int m_faultAt, .int m_seen, .int m_mirrors, .ref y_cost, .ref y_away, .ref y_fee, .ref y_goesTo, .ref y_priceWas, .ref y_isKept, .ref y_kept, .ref y_trace, .int m_traced2_275])), (y_trace, .inl (cI, 16, .inl tr2_276)), (y_city, .inl (cI, 192, .inl cy))]) [1, 2, 0] (by decide) rfl
                exact b_iret S.1 S.2.1 X.2.1 X.2.2.1 hP hD hS ⟨m_traced2_275, tr2_276, (by first | assumption | omega | decide | (rw [show Int32.toInt 0 = 0 from rfl]; omega)), rfl⟩ dX9_markOf_107
              · rw [eq2 (a := kd) (b := 5) (A := kd.toInt) (B := 5) rfl rfl] at c_293
                refine lv_iload_n S.1 S.2.1 dX9_markOf_98 rfl (lv_at hl 0 rfl) ?_
                refine lv_sipush (v := (1000)) S.1 S.2.1 dX9_markOf_99 (by decide) ?_
                refine lv_isub S.1 S.2.1 dX9_markOf_102 ?_
                refine lv_topi (fun x_294 ex_294 => ?_)
                refine lv_goto (tgt := 107) S.1 S.2.1 dX9_markOf_103 (by decide) ?_
                have hP := hP.sub (ws' := [(y, .inr (9, [.int m_thrown, .int m_status, .ref y_lane, .ref y_many, .ref y_item, .ref y_city, .ref y_fresh, .int m_isThere, .ref y_tape, .int m_taped, .int m_latest, .int m_length, .int m_cursor, .int m_token, .int m_start, .int m_till, .int m_fault, .int m_faultAt, .int m_seen, .int m_mirrors, .ref y_cost, .ref y_away, .ref y_fee, .ref y_goesTo, .ref y_priceWas, .ref y_isKept, .ref y_kept, .ref y_trace, .int m_traced2_275])), (y_trace, .inl (cI, 16, .inl tr2_276)), (y_city, .inl (cI, 192, .inl cy))]) [1, 2, 0] rfl
                have hD := hD.sub (ws' := [(y, .inr (9, [.int m_thrown, .int m_status, .ref y_lane, .ref y_many, .ref y_item, .ref y_city, .ref y_fresh, .int m_isThere, .ref y_tape, .int m_taped, .int m_latest, .int m_length, .int m_cursor, .int m_token, .int m_start, .int m_till, .int m_fault, .int m_faultAt, .int m_seen, .int m_mirrors, .ref y_cost, .ref y_away, .ref y_fee, .ref y_goesTo, .ref y_priceWas, .ref y_isKept, .ref y_kept, .ref y_trace, .int m_traced2_275])), (y_trace, .inl (cI, 16, .inl tr2_276)), (y_city, .inl (cI, 192, .inl cy))]) [1, 2, 0] (by decide) rfl
                exact b_iret S.1 S.2.1 X.2.1 X.2.2.1 hP hD hS ⟨m_traced2_275, tr2_276, (by first | assumption | omega | decide | (rw [show Int32.toInt 0 = 0 from rfl]; omega)), rfl⟩ dX9_markOf_107
            · have hf_283 : ¬ (((3) : Int) = 0 ∨ kd.toInt = ((3) : Int) ∨ (((3) : Int) = 3 ∧ kd.toInt = 5) ∨ (((3) : Int) = 2 ∧ (kd.toInt = 3 ∨ kd.toInt = 4 ∨ kd.toInt = 5))) := hf_283
              have hP : va_P D vwCl [(y_city, .inl (cI, 192, .inl cy)), (y, .inr (9, [.int m_thrown, .int m_status, .ref y_lane, .ref y_many, .ref y_item, .ref y_city, .ref y_fresh, .int m_isThere, .ref y_tape, .int m_taped, .int m_latest, .int m_length, .int m_cursor, .int m_token, .int m_start, .int m_till, .int m_fault, .int m_faultAt, .int m_seen, .int m_mirrors, .ref y_cost, .ref y_away, .ref y_fee, .ref y_goesTo, .ref y_priceWas, .ref y_isKept, .ref y_kept, .ref y_trace, .int m_traced2_275])), (y_trace, .inl (cI, 16, .inl tr2_276))] H := hP
              have hD : va_D A [(y_city, .inl (cI, 192, .inl cy)), (y, .inr (9, [.int m_thrown, .int m_status, .ref y_lane, .ref y_many, .ref y_item, .ref y_city, .ref y_fresh, .int m_isThere, .ref y_tape, .int m_taped, .int m_latest, .int m_length, .int m_cursor, .int m_token, .int m_start, .int m_till, .int m_fault, .int m_faultAt, .int m_seen, .int m_mirrors, .ref y_cost, .ref y_away, .ref y_fee, .ref y_goesTo, .ref y_priceWas, .ref y_isKept, .ref y_kept, .ref y_trace, .int m_traced2_275])), (y_trace, .inl (cI, 16, .inl tr2_276))] := hD
              refine lv_if_eq (tgt := 91) S.1 S.2.1 dX9_markOf_64 (by decide) (fun c_295 => ?_) (fun c_295 => absurd c_295 (by decide))
              refine lv_iload_n S.1 S.2.1 dX9_markOf_91 rfl (lv_at hl 1 rfl) ?_
              refine lv_istore_n (lv' := [(3, .int k), (0, .ref y), (1, .int k), (2, .int kd)]) S.1 S.2.1 dX9_markOf_92 rfl hl (by decide) rfl (fun ls hl => ?_)
              refine lv_iload_n S.1 S.2.1 dX9_markOf_93 rfl (lv_at hl 3 rfl) ?_
              refine lv_iconst (v := (5)) S.1 S.2.1 dX9_markOf_94 (by decide) ?_
              refine lv_icmp_ne (tgt := 106) S.1 S.2.1 dX9_markOf_95 (by decide) (fun c_296 => ?_) (fun c_296 => ?_)
              · rw [eq2 (a := kd) (b := 5) (A := kd.toInt) (B := 5) rfl rfl] at c_296
                refine lv_iload_n S.1 S.2.1 dX9_markOf_106 rfl (lv_at hl 0 rfl) ?_
                have hP := hP.sub (ws' := [(y, .inr (9, [.int m_thrown, .int m_status, .ref y_lane, .ref y_many, .ref y_item, .ref y_city, .ref y_fresh, .int m_isThere, .ref y_tape, .int m_taped, .int m_latest, .int m_length, .int m_cursor, .int m_token, .int m_start, .int m_till, .int m_fault, .int m_faultAt, .int m_seen, .int m_mirrors, .ref y_cost, .ref y_away, .ref y_fee, .ref y_goesTo, .ref y_priceWas, .ref y_isKept, .ref y_kept, .ref y_trace, .int m_traced2_275])), (y_trace, .inl (cI, 16, .inl tr2_276)), (y_city, .inl (cI, 192, .inl cy))]) [1, 2, 0] rfl
                have hD := hD.sub (ws' := [(y, .inr (9, [.int m_thrown, .int m_status, .ref y_lane, .ref y_many, .ref y_item, .ref y_city, .ref y_fresh, .int m_isThere, .ref y_tape, .int m_taped, .int m_latest, .int m_length, .int m_cursor, .int m_token, .int m_start, .int m_till, .int m_fault, .int m_faultAt, .int m_seen, .int m_mirrors, .ref y_cost, .ref y_away, .ref y_fee, .ref y_goesTo, .ref y_priceWas, .ref y_isKept, .ref y_kept, .ref y_trace, .int m_traced2_275])), (y_trace, .inl (cI, 16, .inl tr2_276)), (y_city, .inl (cI, 192, .inl cy))]) [1, 2, 0] (by decide) rfl
                exact b_iret S.1 S.2.1 X.2.1 X.2.2.1 hP hD hS ⟨m_traced2_275, tr2_276, (by first | assumption | omega | decide | (rw [show Int32.toInt 0 = 0 from rfl]; omega)), rfl⟩ dX9_markOf_107
              · rw [eq2 (a := kd) (b := 5) (A := kd.toInt) (B := 5) rfl rfl] at c_296
                refine lv_iload_n S.1 S.2.1 dX9_markOf_98 rfl (lv_at hl 0 rfl) ?_
                refine lv_sipush (v := (1000)) S.1 S.2.1 dX9_markOf_99 (by decide) ?_
                refine lv_isub S.1 S.2.1 dX9_markOf_102 ?_
                refine lv_topi (fun x_297 ex_297 => ?_)
                refine lv_goto (tgt := 107) S.1 S.2.1 dX9_markOf_103 (by decide) ?_
                have hP := hP.sub (ws' := [(y, .inr (9, [.int m_thrown, .int m_status, .ref y_lane, .ref y_many, .ref y_item, .ref y_city, .ref y_fresh, .int m_isThere, .ref y_tape, .int m_taped, .int m_latest, .int m_length, .int m_cursor, .int m_token, .int m_start, .int m_till, .int m_fault, .int m_faultAt, .int m_seen, .int m_mirrors, .ref y_cost, .ref y_away, .ref y_fee, .ref y_goesTo, .ref y_priceWas, .ref y_isKept, .ref y_kept, .ref y_trace, .int m_traced2_275])), (y_trace, .inl (cI, 16, .inl tr2_276)), (y_city, .inl (cI, 192, .inl cy))]) [1, 2, 0] rfl
                have hD := hD.sub (ws' := [(y, .inr (9, [.int m_thrown, .int m_status, .ref y_lane, .ref y_many, .ref y_item, .ref y_city, .ref y_fresh, .int m_isThere, .ref y_tape, .int m_taped, .int m_latest, .int m_length, .int m_cursor, .int m_token, .int m_start, .int m_till, .int m_fault, .int m_faultAt, .int m_seen, .int m_mirrors, .ref y_cost, .ref y_away, .ref y_fee, .ref y_goesTo, .ref y_priceWas, .ref y_isKept, .ref y_kept, .ref y_trace, .int m_traced2_275])), (y_trace, .inl (cI, 16, .inl tr2_276)), (y_city, .inl (cI, 192, .inl cy))]) [1, 2, 0] (by decide) rfl
                exact b_iret S.1 S.2.1 X.2.1 X.2.2.1 hP hD hS ⟨m_traced2_275, tr2_276, (by first | assumption | omega | decide | (rw [show Int32.toInt 0 = 0 from rfl]; omega)), rfl⟩ dX9_markOf_107
          · rw [eq2 (a := kd) (b := 4) (A := kd.toInt) (B := 4) rfl rfl] at c_278
            refine lv_iload_n S.1 S.2.1 dX9_markOf_51 rfl (lv_at hl 1 rfl) ?_
            refine lv_aload_n S.1 S.2.1 dX9_markOf_52 rfl (lv_at hl 0 rfl) ?_
            refine lv_iload_n S.1 S.2.1 dX9_markOf_53 rfl (lv_at hl 1 rfl) ?_
            refine b_ai (wr := []) (b_runV (q0 := 1) (ci := 9) (As := [.int k]) (s_X9_wallSize l D cI cZ cC cS sq H.size y y_trace y_city k m_thrown m_status y_lane y_many y_item y_fresh m_isThere y_tape m_taped m_latest m_length m_cursor m_token m_start m_till m_fault m_faultAt m_seen m_mirrors y_cost y_away y_fee y_goesTo y_priceWas y_isKept y_kept m_traced2_275 tr2_276 cy (by first | assumption | omega | decide | (rw [show Int32.toInt 0 = 0 from rfl]; omega)) (by first | assumption | omega | decide | (rw [show Int32.toInt 0 = 0 from rfl]; omega)) (by first | assumption | omega | decide | (rw [show Int32.toInt 0 = 0 from rfl]; omega))) S gX9_markOf_X9_wallSize rfl hdV_X9_wallSize ⟨Nat.le_of_ble_eq_true rfl, Nat.le_of_ble_eq_true rfl⟩ ⟨Nat.le_of_ble_eq_true rfl, Nat.le_of_ble_eq_true rfl⟩ hK hT hS hA hP hD rfl rfl [1, 2, 0] rfl (by decide) rfl hl.1 rfl (Nat.le_of_ble_eq_true rfl) dX9_markOf_54) hP hD hS hA [1, 2, 0] [] rfl rfl (by decide) (by decide) (fun r_298 w_299 H locs hw_300 hP hD hS => ?_)
            obtain ⟨m_traced2_301, tr2_302, hf_303, rfl⟩ := hw_300
            have hP : va_P D vwCl [(y, .inr (9, [.int m_thrown, .int m_status, .ref y_lane, .ref y_many, .ref y_item, .ref y_city, .ref y_fresh, .int m_isThere, .ref y_tape, .int m_taped, .int m_latest, .int m_length, .int m_cursor, .int m_token, .int m_start, .int m_till, .int m_fault, .int m_faultAt, .int m_seen, .int m_mirrors, .ref y_cost, .ref y_away, .ref y_fee, .ref y_goesTo, .ref y_priceWas, .ref y_isKept, .ref y_kept, .ref y_trace, .int m_traced2_301])), (y_trace, .inl (cI, 16, .inl tr2_302)), (y_city, .inl (cI, 192, .inl cy))] H := hP
            have hD : va_D A [(y, .inr (9, [.int m_thrown, .int m_status, .ref y_lane, .ref y_many, .ref y_item, .ref y_city, .ref y_fresh, .int m_isThere, .ref y_tape, .int m_taped, .int m_latest, .int m_length, .int m_cursor, .int m_token, .int m_start, .int m_till, .int m_fault, .int m_faultAt, .int m_seen, .int m_mirrors, .ref y_cost, .ref y_away, .ref y_fee, .ref y_goesTo, .ref y_priceWas, .ref y_isKept, .ref y_kept, .ref y_trace, .int m_traced2_301])), (y_trace, .inl (cI, 16, .inl tr2_302)), (y_city, .inl (cI, 192, .inl cy))] := hD
            refine lv_iadd S.1 S.2.1 dX9_markOf_57 ?_
            refine lv_topi (fun x_304 ex_304 => ?_)
            exact b_iret S.1 S.2.1 X.2.1 X.2.2.1 hP hD hS ⟨m_traced2_301, tr2_302, (by first | assumption | omega | decide | (rw [show Int32.toInt 0 = 0 from rfl]; omega)), rfl⟩ dX9_markOf_58
        · have hf_264 : ¬ (((3) : Int) = 0 ∨ kd.toInt = ((3) : Int) ∨ (((3) : Int) = 3 ∧ kd.toInt = 5) ∨ (((3) : Int) = 2 ∧ (kd.toInt = 3 ∨ kd.toInt = 4 ∨ kd.toInt = 5))) := hf_264
          have hP : va_P D vwCl [(y_city, .inl (cI, 192, .inl cy)), (y, .inr (9, [.int m_thrown, .int m_status, .ref y_lane, .ref y_many, .ref y_item, .ref y_city, .ref y_fresh, .int m_isThere, .ref y_tape, .int m_taped, .int m_latest, .int m_length, .int m_cursor, .int m_token, .int m_start, .int m_till, .int m_fault, .int m_faultAt, .int m_seen, .int m_mirrors, .ref y_cost, .ref y_away, .ref y_fee, .ref y_goesTo, .ref y_priceWas, .ref y_isKept, .ref y_kept, .ref y_trace, .int m_traced2_257])), (y_trace, .inl (cI, 16, .inl tr2_258))] H := hP
          have hD : va_D A [(y_city, .inl (cI, 192, .inl cy)), (y, .inr (9, [.int m_thrown, .int m_status, .ref y_lane, .ref y_many, .ref y_item, .ref y_city, .ref y_fresh, .int m_isThere, .ref y_tape, .int m_taped, .int m_latest, .int m_length, .int m_cursor, .int m_token, .int m_start, .int m_till, .int m_fault, .int m_faultAt, .int m_seen, .int m_mirrors, .ref y_cost, .ref y_away, .ref y_fee, .ref y_goesTo, .ref y_priceWas, .ref y_isKept, .ref y_kept, .ref y_trace, .int m_traced2_257])), (y_trace, .inl (cI, 16, .inl tr2_258))] := hD
          refine lv_if_eq (tgt := 40) S.1 S.2.1 dX9_markOf_31 (by decide) (fun c_305 => ?_) (fun c_305 => absurd c_305 (by decide))
          refine lv_aload_n S.1 S.2.1 dX9_markOf_40 rfl (lv_at hl 0 rfl) ?_
          refine lv_bipush (v := (20)) S.1 S.2.1 dX9_markOf_41 (by decide) ?_
          refine b_av (wr := [(y_city, .inl (cI, 192, .inl cy))]) (b_runV (q0 := 1) (ci := 9) (As := [.int 20]) (s_X9_began l D cI cZ cC cS sq H.size y y_trace (20) m_thrown m_status y_lane y_many y_item y_city y_fresh m_isThere y_tape m_taped m_latest m_length m_cursor m_token m_start m_till m_fault m_faultAt m_seen m_mirrors y_cost y_away y_fee y_goesTo y_priceWas y_isKept y_kept m_traced2_257 tr2_258 (by first | assumption | omega | decide | (rw [show Int32.toInt 0 = 0 from rfl]; omega))) S gX9_markOf_X9_began rfl hdV_X9_began ⟨Nat.le_of_ble_eq_true rfl, Nat.le_of_ble_eq_true rfl⟩ ⟨Nat.le_of_ble_eq_true rfl, Nat.le_of_ble_eq_true rfl⟩ hK hT hS hA hP hD rfl rfl [1, 2] rfl (by decide) rfl hl.1 rfl (Nat.le_of_ble_eq_true rfl) dX9_markOf_43) hP hD hS hA [1, 2] [0] rfl rfl (by decide) (by decide) (fun w_307 H locs hw_308 hP hD hS => ?_)
          obtain ⟨m_traced2_309, tr2_310, hf_311, rfl⟩ := hw_308
          have hP : va_P D vwCl [(y_city, .inl (cI, 192, .inl cy)), (y, .inr (9, [.int m_thrown, .int m_status, .ref y_lane, .ref y_many, .ref y_item, .ref y_city, .ref y_fresh, .int m_isThere, .ref y_tape, .int m_taped, .int m_latest, .int m_length, .int m_cursor, .int m_token, .int m_start, .int m_till, .int m_fault, .int m_faultAt, .int m_seen, .int m_mirrors, .ref y_cost, .ref y_away, .ref y_fee, .ref y_goesTo, .ref y_priceWas, .ref y_isKept, .ref y_kept, .ref y_trace, .int m_traced2_309])), (y_trace, .inl (cI, 16, .inl tr2_310))] H := hP
          have hD : va_D A [(y_city, .inl (cI, 192, .inl cy)), (y, .inr (9, [.int m_thrown, .int m_status, .ref y_lane, .ref y_many, .ref y_item, .ref y_city, .ref y_fresh, .int m_isThere, .ref y_tape, .int m_taped, .int m_latest, .int m_length, .int m_cursor, .int m_token, .int m_start, .int m_till, .int m_fault, .int m_faultAt, .int m_seen, .int m_mirrors, .ref y_cost, .ref y_away, .ref y_fee, .ref y_goesTo, .ref y_priceWas, .ref y_isKept, .ref y_kept, .ref y_trace, .int m_traced2_309])), (y_trace, .inl (cI, 16, .inl tr2_310))] := hD
          refine lv_iload_n S.1 S.2.1 dX9_markOf_46 rfl (lv_at hl 2 rfl) ?_
          refine lv_iconst (v := (4)) S.1 S.2.1 dX9_markOf_47 (by decide) ?_
          refine lv_icmp_ne (tgt := 59) S.1 S.2.1 dX9_markOf_48 (by decide) (fun c_312 => ?_) (fun c_312 => ?_)
          · rw [eq2 (a := kd) (b := 4) (A := kd.toInt) (B := 4) rfl rfl] at c_312
            refine lv_iload_n S.1 S.2.1 dX9_markOf_59 rfl (lv_at hl 2 rfl) ?_
            refine lv_iconst (v := (3)) S.1 S.2.1 dX9_markOf_60 (by decide) ?_
            refine b_ai (wr := [(y_city, .inl (cI, 192, .inl cy)), (y, .inr (9, [.int m_thrown, .int m_status, .ref y_lane, .ref y_many, .ref y_item, .ref y_city, .ref y_fresh, .int m_isThere, .ref y_tape, .int m_taped, .int m_latest, .int m_length, .int m_cursor, .int m_token, .int m_start, .int m_till, .int m_fault, .int m_faultAt, .int m_seen, .int m_mirrors, .ref y_cost, .ref y_away, .ref y_fee, .ref y_goesTo, .ref y_priceWas, .ref y_isKept, .ref y_kept, .ref y_trace, .int m_traced2_309])), (y_trace, .inl (cI, 16, .inl tr2_310))]) (b_runS (As := [.int kd, .int 3]) (s_X9_isOf2 l D cI cZ cC cS sq H.size kd (3)) S gX9_markOf_X9_isOf rfl hdS_X9_isOf ⟨Nat.le_of_ble_eq_true rfl, Nat.le_of_ble_eq_true rfl⟩ ⟨Nat.le_of_ble_eq_true rfl, Nat.le_of_ble_eq_true rfl⟩ hK hT hS hA hP hD [] rfl (by decide) rfl hl.1 rfl (Nat.le_of_ble_eq_true rfl) dX9_markOf_61) hP hD hS hA [] [0, 1, 2] rfl rfl (by decide) (by decide) (fun r_313 w_314 H locs hw_315 hP hD hS => ?_)
            rcases hw_315 with ⟨hf_316, rfl, rfl⟩ | ⟨hf_317, rfl, rfl⟩
            · have hf_316 : ((3) : Int) = 0 ∨ kd.toInt = ((3) : Int) ∨ (((3) : Int) = 3 ∧ kd.toInt = 5) ∨ (((3) : Int) = 2 ∧ (kd.toInt = 3 ∨ kd.toInt = 4 ∨ kd.toInt = 5)) := hf_316
              have hP : va_P D vwCl [(y_city, .inl (cI, 192, .inl cy)), (y, .inr (9, [.int m_thrown, .int m_status, .ref y_lane, .ref y_many, .ref y_item, .ref y_city, .ref y_fresh, .int m_isThere, .ref y_tape, .int m_taped, .int m_latest, .int m_length, .int m_cursor, .int m_token, .int m_start, .int m_till, .int m_fault, .int m_faultAt, .int m_seen, .int m_mirrors, .ref y_cost, .ref y_away, .ref y_fee, .ref y_goesTo, .ref y_priceWas, .ref y_isKept, .ref y_kept, .ref y_trace, .int m_traced2_309])), (y_trace, .inl (cI, 16, .inl tr2_310))] H := hP
              have hD : va_D A [(y_city, .inl (cI, 192, .inl cy)), (y, .inr (9, [.int m_thrown, .int m_status, .ref y_lane, .ref y_many, .ref y_item, .ref y_city, .ref y_fresh, .int m_isThere, .ref y_tape, .int m_taped, .int m_latest, .int m_length, .int m_cursor, .int m_token, .int m_start, .int m_till, .int m_fault, .int m_faultAt, .int m_seen, .int m_mirrors, .ref y_cost, .ref y_away, .ref y_fee, .ref y_goesTo, .ref y_priceWas, .ref y_isKept, .ref y_kept, .ref y_trace, .int m_traced2_309])), (y_trace, .inl (cI, 16, .inl tr2_310))] := hD
              refine lv_if_eq (tgt := 91) S.1 S.2.1 dX9_markOf_64 (by decide) (fun c_318 => absurd c_318 (by decide)) (fun c_318 => ?_)
              refine lv_iload_n S.1 S.2.1 dX9_markOf_67 rfl (lv_at hl 1 rfl) ?_
              refine lv_bipush (v := (100)) S.1 S.2.1 dX9_markOf_68 (by decide) ?_
              refine lv_aload_n S.1 S.2.1 dX9_markOf_70 rfl (lv_at hl 0 rfl) ?_
              refine b_get (v := .ref y_city) S iX9 hK hP 1 rfl rfl 5 (by decide) (by decide +kernel) rfl dX9_markOf_71 ?_
              refine lv_bipush (v := (84)) S.1 S.2.1 dX9_markOf_74 (by decide) ?_
              refine lv_aload_n S.1 S.2.1 dX9_markOf_76 rfl (lv_at hl 0 rfl) ?_
              refine b_get (v := .ref y_city) S iX9 hK hP 1 rfl rfl 5 (by decide) (by decide +kernel) rfl dX9_markOf_77 ?_
              refine lv_iconst (v := (4)) S.1 S.2.1 dX9_markOf_80 (by decide) ?_
              refine lv_iload_n S.1 S.2.1 dX9_markOf_81 rfl (lv_at hl 1 rfl) ?_
              refine lv_iadd S.1 S.2.1 dX9_markOf_82 ?_
              refine lv_topi (fun x_319 ex_319 => ?_)
              have tx_319 : x_319.toInt = 4 + (k.toInt) := addI (A := 4) (B := k.toInt) ex_319 rfl rfl (by omega) (by omega)
              have hin_320 : vp_in x_319 192 := (in_of (n := 192) (by omega) (by omega))
              refine va_iald S.1 S.2.1 hK.1 hP 0 0 rfl rfl hin_320 dX9_markOf_83 ?_
              refine lv_topi (fun x_321 ex_321 => ?_)
              have tx_321 := cyg_A (x := x_321) (show prd cyK 192 cy by assumption) (by omega) ex_321
              have bx_321 : x_321.toInt = (cy (4 + k.toInt.toNat)).toInt := by rw [ex_321, show (x_319).toNatClampNeg = 4 + k.toInt.toNat from by show (x_319).toInt.toNat = _; omega]
              refine lv_iadd S.1 S.2.1 dX9_markOf_84 ?_
              refine lv_topi (fun x_322 ex_322 => ?_)
              have tx_322 : x_322.toInt = 84 + (x_321.toInt) := addI (A := 84) (B := x_321.toInt) ex_322 rfl rfl (by omega) (by omega)
              have hin_323 : vp_in x_322 192 := (in_of (n := 192) (by omega) (by omega))
              refine va_iald S.1 S.2.1 hK.1 hP 0 0 rfl rfl hin_323 dX9_markOf_85 ?_
              refine lv_topi (fun x_324 ex_324 => ?_)
              have tx_324 := cyg_P (x := x_324) (show prd cyK 192 cy by assumption) (by omega) ex_324
              refine lv_imul S.1 S.2.1 dX9_markOf_86 ?_
              refine lv_topi (fun x_325 ex_325 => ?_)
              refine lv_iadd S.1 S.2.1 dX9_markOf_87 ?_
              refine lv_topi (fun x_326 ex_326 => ?_)
              refine lv_goto (tgt := 92) S.1 S.2.1 dX9_markOf_88 (by decide) ?_
              refine lv_istore_n (lv' := [(3, .int x_326), (0, .ref y), (1, .int k), (2, .int kd)]) S.1 S.2.1 dX9_markOf_92 rfl hl (by decide) rfl (fun ls hl => ?_)
              refine lv_iload_n S.1 S.2.1 dX9_markOf_93 rfl (lv_at hl 3 rfl) ?_
              refine lv_iconst (v := (5)) S.1 S.2.1 dX9_markOf_94 (by decide) ?_
              refine lv_icmp_ne (tgt := 106) S.1 S.2.1 dX9_markOf_95 (by decide) (fun c_327 => ?_) (fun c_327 => ?_)
              · rw [eq2 (a := kd) (b := 5) (A := kd.toInt) (B := 5) rfl rfl] at c_327
                refine lv_iload_n S.1 S.2.1 dX9_markOf_106 rfl (lv_at hl 0 rfl) ?_
                have hP := hP.sub (ws' := [(y, .inr (9, [.int m_thrown, .int m_status, .ref y_lane, .ref y_many, .ref y_item, .ref y_city, .ref y_fresh, .int m_isThere, .ref y_tape, .int m_taped, .int m_latest, .int m_length, .int m_cursor, .int m_token, .int m_start, .int m_till, .int m_fault, .int m_faultAt, .int m_seen, .int m_mirrors, .ref y_cost, .ref y_away, .ref y_fee, .ref y_goesTo, .ref y_priceWas, .ref y_isKept, .ref y_kept, .ref y_trace, .int m_traced2_309])), (y_trace, .inl (cI, 16, .inl tr2_310)), (y_city, .inl (cI, 192, .inl cy))]) [1, 2, 0] rfl
                have hD := hD.sub (ws' := [(y, .inr (9, [.int m_thrown, .int m_status, .ref y_lane, .ref y_many, .ref y_item, .ref y_city, .ref y_fresh, .int m_isThere, .ref y_tape, .int m_taped, .int m_latest, .int m_length, .int m_cursor, .int m_token, .int m_start, .int m_till, .int m_fault, .int m_faultAt, .int m_seen, .int m_mirrors, .ref y_cost, .ref y_away, .ref y_fee, .ref y_goesTo, .ref y_priceWas, .ref y_isKept, .ref y_kept, .ref y_trace, .int m_traced2_309])), (y_trace, .inl (cI, 16, .inl tr2_310)), (y_city, .inl (cI, 192, .inl cy))]) [1, 2, 0] (by decide) rfl
                exact b_iret S.1 S.2.1 X.2.1 X.2.2.1 hP hD hS ⟨m_traced2_309, tr2_310, (by first | assumption | omega | decide | (rw [show Int32.toInt 0 = 0 from rfl]; omega)), rfl⟩ dX9_markOf_107
              · rw [eq2 (a := kd) (b := 5) (A := kd.toInt) (B := 5) rfl rfl] at c_327
                refine lv_iload_n S.1 S.2.1 dX9_markOf_98 rfl (lv_at hl 0 rfl) ?_
                refine lv_sipush (v := (1000)) S.1 S.2.1 dX9_markOf_99 (by decide) ?_
                refine lv_isub S.1 S.2.1 dX9_markOf_102 ?_
                refine lv_topi (fun x_328 ex_328 => ?_)
                refine lv_goto (tgt := 107) S.1 S.2.1 dX9_markOf_103 (by decide) ?_
                have hP := hP.sub (ws' := [(y, .inr (9, [.int m_thrown, .int m_status, .ref y_lane, .ref y_many, .ref y_item, .ref y_city, .ref y_fresh, .int m_isThere, .ref y_tape, .int m_taped, .int m_latest, .int m_length, .int m_cursor, .int m_token, .int m_start, .int m_till, .int m_fault, .int m_faultAt, .int m_seen, .int m_mirrors, .ref y_cost, .ref y_away, .ref y_fee, .ref y_goesTo, .ref y_priceWas, .ref y_isKept, .ref y_kept, .ref y_trace, .int m_traced2_309])), (y_trace, .inl (cI, 16, .inl tr2_310)), (y_city, .inl (cI, 192, .inl cy))]) [1, 2, 0] rfl
                have hD := hD.sub (ws' := [(y, .inr (9, [.int m_thrown, .int m_status, .ref y_lane, .ref y_many, .ref y_item, .ref y_city, .ref y_fresh, .int m_isThere, .ref y_tape, .int m_taped, .int m_latest, .int m_length, .int m_cursor, .int m_token, .int m_start, .int m_till, .int m_fault, .int m_faultAt, .int m_seen, .int m_mirrors, .ref y_cost, .ref y_away, .ref y_fee, .ref y_goesTo, .ref y_priceWas, .ref y_isKept, .ref y_kept, .ref y_trace, .int m_traced2_309])), (y_trace, .inl (cI, 16, .inl tr2_310)), (y_city, .inl (cI, 192, .inl cy))]) [1, 2, 0] (by decide) rfl
                exact b_iret S.1 S.2.1 X.2.1 X.2.2.1 hP hD hS ⟨m_traced2_309, tr2_310, (by first | assumption | omega | decide | (rw [show Int32.toInt 0 = 0 from rfl]; omega)), rfl⟩ dX9_markOf_107
            · have hf_317 : ¬ (((3) : Int) = 0 ∨ kd.toInt = ((3) : Int) ∨ (((3) : Int) = 3 ∧ kd.toInt = 5) ∨ (((3) : Int) = 2 ∧ (kd.toInt = 3 ∨ kd.toInt = 4 ∨ kd.toInt = 5))) := hf_317
              have hP : va_P D vwCl [(y_city, .inl (cI, 192, .inl cy)), (y, .inr (9, [.int m_thrown, .int m_status, .ref y_lane, .ref y_many, .ref y_item, .ref y_city, .ref y_fresh, .int m_isThere, .ref y_tape, .int m_taped, .int m_latest, .int m_length, .int m_cursor, .int m_token, .int m_start, .int m_till, .int m_fault, .int m_faultAt, .int m_seen, .int m_mirrors, .ref y_cost, .ref y_away, .ref y_fee, .ref y_goesTo, .ref y_priceWas, .ref y_isKept, .ref y_kept, .ref y_trace, .int m_traced2_309])), (y_trace, .inl (cI, 16, .inl tr2_310))] H := hP
              have hD : va_D A [(y_city, .inl (cI, 192, .inl cy)), (y, .inr (9, [.int m_thrown, .int m_status, .ref y_lane, .ref y_many, .ref y_item, .ref y_city, .ref y_fresh, .int m_isThere, .ref y_tape, .int m_taped, .int m_latest, .int m_length, .int m_cursor, .int m_token, .int m_start, .int m_till, .int m_fault, .int m_faultAt, .int m_seen, .int m_mirrors, .ref y_cost, .ref y_away, .ref y_fee, .ref y_goesTo, .ref y_priceWas, .ref y_isKept, .ref y_kept, .ref y_trace, .int m_traced2_309])), (y_trace, .inl (cI, 16, .inl tr2_310))] := hD
              refine lv_if_eq (tgt := 91) S.1 S.2.1 dX9_markOf_64 (by decide) (fun c_329 => ?_) (fun c_329 => absurd c_329 (by decide))
              refine lv_iload_n S.1 S.2.1 dX9_markOf_91 rfl (lv_at hl 1 rfl) ?_
              refine lv_istore_n (lv' := [(3, .int k), (0, .ref y), (1, .int k), (2, .int kd)]) S.1 S.2.1 dX9_markOf_92 rfl hl (by decide) rfl (fun ls hl => ?_)
              refine lv_iload_n S.1 S.2.1 dX9_markOf_93 rfl (lv_at hl 3 rfl) ?_
              refine lv_iconst (v := (5)) S.1 S.2.1 dX9_markOf_94 (by decide) ?_
              refine lv_icmp_ne (tgt := 106) S.1 S.2.1 dX9_markOf_95 (by decide) (fun c_330 => ?_) (fun c_330 => ?_)
              · rw [eq2 (a := kd) (b := 5) (A := kd.toInt) (B := 5) rfl rfl] at c_330
                refine lv_iload_n S.1 S.2.1 dX9_markOf_106 rfl (lv_at hl 0 rfl) ?_
                have hP := hP.sub (ws' := [(y, .inr (9, [.int m_thrown, .int m_status, .ref y_lane, .ref y_many, .ref y_item, .ref y_city, .ref y_fresh, .int m_isThere, .ref y_tape, .int m_taped, .int m_latest, .int m_length, .int m_cursor, .int m_token, .int m_start, .int m_till, .int m_fault, .int m_faultAt, .int m_seen, .int m_mirrors, .ref y_cost, .ref y_away, .ref y_fee, .ref y_goesTo, .ref y_priceWas, .ref y_isKept, .ref y_kept, .ref y_trace, .int m_traced2_309])), (y_trace, .inl (cI, 16, .inl tr2_310)), (y_city, .inl (cI, 192, .inl cy))]) [1, 2, 0] rfl
                have hD := hD.sub (ws' := [(y, .inr (9, [.int m_thrown, .int m_status, .ref y_lane, .ref y_many, .ref y_item, .ref y_city, .ref y_fresh, .int m_isThere, .ref y_tape, .int m_taped, .int m_latest, .int m_length, .int m_cursor, .int m_token, .int m_start, .int m_till, .int m_fault, .int m_faultAt, .int m_seen, .int m_mirrors, .ref y_cost, .ref y_away, .ref y_fee, .ref y_goesTo, .ref y_priceWas, .ref y_isKept, .ref y_kept, .ref y_trace, .int m_traced2_309])), (y_trace, .inl (cI, 16, .inl tr2_310)), (y_city, .inl (cI, 192, .inl cy))]) [1, 2, 0] (by decide) rfl
                exact b_iret S.1 S.2.1 X.2.1 X.2.2.1 hP hD hS ⟨m_traced2_309, tr2_310, (by first | assumption | omega | decide | (rw [show Int32.toInt 0 = 0 from rfl]; omega)), rfl⟩ dX9_markOf_107
              · rw [eq2 (a := kd) (b := 5) (A := kd.toInt) (B := 5) rfl rfl] at c_330
                refine lv_iload_n S.1 S.2.1 dX9_markOf_98 rfl (lv_at hl 0 rfl) ?_
                refine lv_sipush (v := (1000)) S.1 S.2.1 dX9_markOf_99 (by decide) ?_
                refine lv_isub S.1 S.2.1 dX9_markOf_102 ?_
                refine lv_topi (fun x_331 ex_331 => ?_)
                refine lv_goto (tgt := 107) S.1 S.2.1 dX9_markOf_103 (by decide) ?_
                have hP := hP.sub (ws' := [(y, .inr (9, [.int m_thrown, .int m_status, .ref y_lane, .ref y_many, .ref y_item, .ref y_city, .ref y_fresh, .int m_isThere, .ref y_tape, .int m_taped, .int m_latest, .int m_length, .int m_cursor, .int m_token, .int m_start, .int m_till, .int m_fault, .int m_faultAt, .int m_seen, .int m_mirrors, .ref y_cost, .ref y_away, .ref y_fee, .ref y_goesTo, .ref y_priceWas, .ref y_isKept, .ref y_kept, .ref y_trace, .int m_traced2_309])), (y_trace, .inl (cI, 16, .inl tr2_310)), (y_city, .inl (cI, 192, .inl cy))]) [1, 2, 0] rfl
                have hD := hD.sub (ws' := [(y, .inr (9, [.int m_thrown, .int m_status, .ref y_lane, .ref y_many, .ref y_item, .ref y_city, .ref y_fresh, .int m_isThere, .ref y_tape, .int m_taped, .int m_latest, .int m_length, .int m_cursor, .int m_token, .int m_start, .int m_till, .int m_fault, .int m_faultAt, .int m_seen, .int m_mirrors, .ref y_cost, .ref y_away, .ref y_fee, .ref y_goesTo, .ref y_priceWas, .ref y_isKept, .ref y_kept, .ref y_trace, .int m_traced2_309])), (y_trace, .inl (cI, 16, .inl tr2_310)), (y_city, .inl (cI, 192, .inl cy))]) [1, 2, 0] (by decide) rfl
                exact b_iret S.1 S.2.1 X.2.1 X.2.2.1 hP hD hS ⟨m_traced2_309, tr2_310, (by first | assumption | omega | decide | (rw [show Int32.toInt 0 = 0 from rfl]; omega)), rfl⟩ dX9_markOf_107
          · rw [eq2 (a := kd) (b := 4) (A := kd.toInt) (B := 4) rfl rfl] at c_312
            refine lv_iload_n S.1 S.2.1 dX9_markOf_51 rfl (lv_at hl 1 rfl) ?_
            refine lv_aload_n S.1 S.2.1 dX9_markOf_52 rfl (lv_at hl 0 rfl) ?_
            refine lv_iload_n S.1 S.2.1 dX9_markOf_53 rfl (lv_at hl 1 rfl) ?_
            refine b_ai (wr := []) (b_runV (q0 := 1) (ci := 9) (As := [.int k]) (s_X9_wallSize l D cI cZ cC cS sq H.size y y_trace y_city k m_thrown m_status y_lane y_many y_item y_fresh m_isThere y_tape m_taped m_latest m_length m_cursor m_token m_start m_till m_fault m_faultAt m_seen m_mirrors y_cost y_away y_fee y_goesTo y_priceWas y_isKept y_kept m_traced2_309 tr2_310 cy (by first | assumption | omega | decide | (rw [show Int32.toInt 0 = 0 from rfl]; omega)) (by first | assumption | omega | decide | (rw [show Int32.toInt 0 = 0 from rfl]; omega)) (by first | assumption | omega | decide | (rw [show Int32.toInt 0 = 0 from rfl]; omega))) S gX9_markOf_X9_wallSize rfl hdV_X9_wallSize ⟨Nat.le_of_ble_eq_true rfl, Nat.le_of_ble_eq_true rfl⟩ ⟨Nat.le_of_ble_eq_true rfl, Nat.le_of_ble_eq_true rfl⟩ hK hT hS hA hP hD rfl rfl [1, 2, 0] rfl (by decide) rfl hl.1 rfl (Nat.le_of_ble_eq_true rfl) dX9_markOf_54) hP hD hS hA [1, 2, 0] [] rfl rfl (by decide) (by decide) (fun r_332 w_333 H locs hw_334 hP hD hS => ?_)
            obtain ⟨m_traced2_335, tr2_336, hf_337, rfl⟩ := hw_334
            have hP : va_P D vwCl [(y, .inr (9, [.int m_thrown, .int m_status, .ref y_lane, .ref y_many, .ref y_item, .ref y_city, .ref y_fresh, .int m_isThere, .ref y_tape, .int m_taped, .int m_latest, .int m_length, .int m_cursor, .int m_token, .int m_start, .int m_till, .int m_fault, .int m_faultAt, .int m_seen, .int m_mirrors, .ref y_cost, .ref y_away, .ref y_fee, .ref y_goesTo, .ref y_priceWas, .ref y_isKept, .ref y_kept, .ref y_trace, .int m_traced2_335])), (y_trace, .inl (cI, 16, .inl tr2_336)), (y_city, .inl (cI, 192, .inl cy))] H := hP
            have hD : va_D A [(y, .inr (9, [.int m_thrown, .int m_status, .ref y_lane, .ref y_many, .ref y_item, .ref y_city, .ref y_fresh, .int m_isThere, .ref y_tape, .int m_taped, .int m_latest, .int m_length, .int m_cursor, .int m_token, .int m_start, .int m_till, .int m_fault, .int m_faultAt, .int m_seen, .int m_mirrors, .ref y_cost, .ref y_away, .ref y_fee, .ref y_goesTo, .ref y_priceWas, .ref y_isKept, .ref y_kept, .ref y_trace, .int m_traced2_335])), (y_trace, .inl (cI, 16, .inl tr2_336)), (y_city, .inl (cI, 192, .inl cy))] := hD
            refine lv_iadd S.1 S.2.1 dX9_markOf_57 ?_
            refine lv_topi (fun x_338 ex_338 => ?_)
            exact b_iret S.1 S.2.1 X.2.1 X.2.2.1 hP hD hS ⟨m_traced2_335, tr2_336, (by first | assumption | omega | decide | (rw [show Int32.toInt 0 = 0 from rfl]; omega)), rfl⟩ dX9_markOf_58
      · rw [eq2 (a := kd) (b := 5) (A := kd.toInt) (B := 5) rfl rfl] at c_253
        refine lv_bipush (v := (23)) S.1 S.2.1 dX9_markOf_16 (by decide) ?_
        refine lv_goto (tgt := 23) S.1 S.2.1 dX9_markOf_18 (by decide) ?_
        refine b_av (wr := [(y_city, .inl (cI, 192, .inl cy))]) (b_runV (q0 := 0) (ci := 9) (As := [.int 23]) (s_X9_began l D cI cZ cC cS sq H.size y y_trace (23) m_thrown m_status y_lane y_many y_item y_city y_fresh m_isThere y_tape m_taped m_latest m_length m_cursor m_token m_start m_till m_fault m_faultAt m_seen m_mirrors y_cost y_away y_fee y_goesTo y_priceWas y_isKept y_kept m_traced tr (by first | assumption | omega | decide | (rw [show Int32.toInt 0 = 0 from rfl]; omega))) S gX9_markOf_X9_began rfl hdV_X9_began ⟨Nat.le_of_ble_eq_true rfl, Nat.le_of_ble_eq_true rfl⟩ ⟨Nat.le_of_ble_eq_true rfl, Nat.le_of_ble_eq_true rfl⟩ hK hT hS hA hP hD rfl rfl [0, 1] rfl (by decide) rfl hl.1 rfl (Nat.le_of_ble_eq_true rfl) dX9_markOf_23) hP hD hS hA [0, 1] [2] rfl rfl (by decide) (by decide) (fun w_340 H locs hw_341 hP hD hS => ?_)
        obtain ⟨m_traced2_342, tr2_343, hf_344, rfl⟩ := hw_341
        have hP : va_P D vwCl [(y_city, .inl (cI, 192, .inl cy)), (y, .inr (9, [.int m_thrown, .int m_status, .ref y_lane, .ref y_many, .ref y_item, .ref y_city, .ref y_fresh, .int m_isThere, .ref y_tape, .int m_taped, .int m_latest, .int m_length, .int m_cursor, .int m_token, .int m_start, .int m_till, .int m_fault, .int m_faultAt, .int m_seen, .int m_mirrors, .ref y_cost, .ref y_away, .ref y_fee, .ref y_goesTo, .ref y_priceWas, .ref y_isKept, .ref y_kept, .ref y_trace, .int m_traced2_342])), (y_trace, .inl (cI, 16, .inl tr2_343))] H := hP
        have hD : va_D A [(y_city, .inl (cI, 192, .inl cy)), (y, .inr (9, [.int m_thrown, .int m_status, .ref y_lane, .ref y_many, .ref y_item, .ref y_city, .ref y_fresh, .int m_isThere, .ref y_tape, .int m_taped, .int m_latest, .int m_length, .int m_cursor, .int m_token, .int m_start, .int m_till, .int m_fault, .int m_faultAt, .int m_seen, .int m_mirrors, .ref y_cost, .ref y_away, .ref y_fee, .ref y_goesTo, .ref y_priceWas, .ref y_isKept, .ref y_kept, .ref y_trace, .int m_traced2_342])), (y_trace, .inl (cI, 16, .inl tr2_343))] := hD
        refine lv_iload_n S.1 S.2.1 dX9_markOf_26 rfl (lv_at hl 2 rfl) ?_
        refine lv_iconst (v := (3)) S.1 S.2.1 dX9_markOf_27 (by decide) ?_
        refine b_ai (wr := [(y_city, .inl (cI, 192, .inl cy)), (y, .inr (9, [.int m_thrown, .int m_status, .ref y_lane, .ref y_many, .ref y_item, .ref y_city, .ref y_fresh, .int m_isThere, .ref y_tape, .int m_taped, .int m_latest, .int m_length, .int m_cursor, .int m_token, .int m_start, .int m_till, .int m_fault, .int m_faultAt, .int m_seen, .int m_mirrors, .ref y_cost, .ref y_away, .ref y_fee, .ref y_goesTo, .ref y_priceWas, .ref y_isKept, .ref y_kept, .ref y_trace, .int m_traced2_342])), (y_trace, .inl (cI, 16, .inl tr2_343))]) (b_runS (As := [.int kd, .int 3]) (s_X9_isOf2 l D cI cZ cC cS sq H.size kd (3)) S gX9_markOf_X9_isOf rfl hdS_X9_isOf ⟨Nat.le_of_ble_eq_true rfl, Nat.le_of_ble_eq_true rfl⟩ ⟨Nat.le_of_ble_eq_true rfl, Nat.le_of_ble_eq_true rfl⟩ hK hT hS hA hP hD [] rfl (by decide) rfl hl.1 rfl (Nat.le_of_ble_eq_true rfl) dX9_markOf_28) hP hD hS hA [] [0, 1, 2] rfl rfl (by decide) (by decide) (fun r_345 w_346 H locs hw_347 hP hD hS => ?_)
        rcases hw_347 with ⟨hf_348, rfl, rfl⟩ | ⟨hf_349, rfl, rfl⟩
        · have hf_348 : ((3) : Int) = 0 ∨ kd.toInt = ((3) : Int) ∨ (((3) : Int) = 3 ∧ kd.toInt = 5) ∨ (((3) : Int) = 2 ∧ (kd.toInt = 3 ∨ kd.toInt = 4 ∨ kd.toInt = 5)) := hf_348
          have hP : va_P D vwCl [(y_city, .inl (cI, 192, .inl cy)), (y, .inr (9, [.int m_thrown, .int m_status, .ref y_lane, .ref y_many, .ref y_item, .ref y_city, .ref y_fresh, .int m_isThere, .ref y_tape, .int m_taped, .int m_latest, .int m_length, .int m_cursor, .int m_token, .int m_start, .int m_till, .int m_fault, .int m_faultAt, .int m_seen, .int m_mirrors, .ref y_cost, .ref y_away, .ref y_fee, .ref y_goesTo, .ref y_priceWas, .ref y_isKept, .ref y_kept, .ref y_trace, .int m_traced2_342])), (y_trace, .inl (cI, 16, .inl tr2_343))] H := hP
          have hD : va_D A [(y_city, .inl (cI, 192, .inl cy)), (y, .inr (9, [.int m_thrown, .int m_status, .ref y_lane, .ref y_many, .ref y_item, .ref y_city, .ref y_fresh, .int m_isThere, .ref y_tape, .int m_taped, .int m_latest, .int m_length, .int m_cursor, .int m_token, .int m_start, .int m_till, .int m_fault, .int m_faultAt, .int m_seen, .int m_mirrors, .ref y_cost, .ref y_away, .ref y_fee, .ref y_goesTo, .ref y_priceWas, .ref y_isKept, .ref y_kept, .ref y_trace, .int m_traced2_342])), (y_trace, .inl (cI, 16, .inl tr2_343))] := hD
          refine lv_if_eq (tgt := 40) S.1 S.2.1 dX9_markOf_31 (by decide) (fun c_350 => absurd c_350 (by decide)) (fun c_350 => ?_)
          refine lv_aload_n S.1 S.2.1 dX9_markOf_34 rfl (lv_at hl 0 rfl) ?_
          refine lv_bipush (v := (21)) S.1 S.2.1 dX9_markOf_35 (by decide) ?_
          refine b_av (wr := [(y_city, .inl (cI, 192, .inl cy))]) (b_runV (q0 := 1) (ci := 9) (As := [.int 21]) (s_X9_began l D cI cZ cC cS sq H.size y y_trace (21) m_thrown m_status y_lane y_many y_item y_city y_fresh m_isThere y_tape m_taped m_latest m_length m_cursor m_token m_start m_till m_fault m_faultAt m_seen m_mirrors y_cost y_away y_fee y_goesTo y_priceWas y_isKept y_kept m_traced2_342 tr2_343 (by first | assumption | omega | decide | (rw [show Int32.toInt 0 = 0 from rfl]; omega))) S gX9_markOf_X9_began rfl hdV_X9_began ⟨Nat.le_of_ble_eq_true rfl, Nat.le_of_ble_eq_true rfl⟩ ⟨Nat.le_of_ble_eq_true rfl, Nat.le_of_ble_eq_true rfl⟩ hK hT hS hA hP hD rfl rfl [1, 2] rfl (by decide) rfl hl.1 rfl (Nat.le_of_ble_eq_true rfl) dX9_markOf_37) hP hD hS hA [1, 2] [0] rfl rfl (by decide) (by decide) (fun w_352 H locs hw_353 hP hD hS => ?_)
          obtain ⟨m_traced2_354, tr2_355, hf_356, rfl⟩ := hw_353
          have hP : va_P D vwCl [(y_city, .inl (cI, 192, .inl cy)), (y, .inr (9, [.int m_thrown, .int m_status, .ref y_lane, .ref y_many, .ref y_item, .ref y_city, .ref y_fresh, .int m_isThere, .ref y_tape, .int m_taped, .int m_latest, .int m_length, .int m_cursor, .int m_token, .int m_start, .int m_till, .int m_fault, .int m_faultAt, .int m_seen, .int m_mirrors, .ref y_cost, .ref y_away, .ref y_fee, .ref y_goesTo, .ref y_priceWas, .ref y_isKept, .ref y_kept, .ref y_trace, .int m_traced2_354])), (y_trace, .inl (cI, 16, .inl tr2_355))] H := hP
          have hD : va_D A [(y_city, .inl (cI, 192, .inl cy)), (y, .inr (9, [.int m_thrown, .int m_status, .ref y_lane, .ref y_many, .ref y_item, .ref y_city, .ref y_fresh, .int m_isThere, .ref y_tape, .int m_taped, .int m_latest, .int m_length, .int m_cursor, .int m_token, .int m_start, .int m_till, .int m_fault, .int m_faultAt, .int m_seen, .int m_mirrors, .ref y_cost, .ref y_away, .ref y_fee, .ref y_goesTo, .ref y_priceWas, .ref y_isKept, .ref y_kept, .ref y_trace, .int m_traced2_354])), (y_trace, .inl (cI, 16, .inl tr2_355))] := hD
          refine lv_aload_n S.1 S.2.1 dX9_markOf_40 rfl (lv_at hl 0 rfl) ?_
          refine lv_bipush (v := (20)) S.1 S.2.1 dX9_markOf_41 (by decide) ?_
          refine b_av (wr := [(y_city, .inl (cI, 192, .inl cy))]) (b_runV (q0 := 1) (ci := 9) (As := [.int 20]) (s_X9_began l D cI cZ cC cS sq H.size y y_trace (20) m_thrown m_status y_lane y_many y_item y_city y_fresh m_isThere y_tape m_taped m_latest m_length m_cursor m_token m_start m_till m_fault m_faultAt m_seen m_mirrors y_cost y_away y_fee y_goesTo y_priceWas y_isKept y_kept m_traced2_354 tr2_355 (by first | assumption | omega | decide | (rw [show Int32.toInt 0 = 0 from rfl]; omega))) S gX9_markOf_X9_began rfl hdV_X9_began ⟨Nat.le_of_ble_eq_true rfl, Nat.le_of_ble_eq_true rfl⟩ ⟨Nat.le_of_ble_eq_true rfl, Nat.le_of_ble_eq_true rfl⟩ hK hT hS hA hP hD rfl rfl [1, 2] rfl (by decide) rfl hl.1 rfl (Nat.le_of_ble_eq_true rfl) dX9_markOf_43) hP hD hS hA [1, 2] [0] rfl rfl (by decide) (by decide) (fun w_358 H locs hw_359 hP hD hS => ?_)
          obtain ⟨m_traced2_360, tr2_361, hf_362, rfl⟩ := hw_359
          have hP : va_P D vwCl [(y_city, .inl (cI, 192, .inl cy)), (y, .inr (9, [.int m_thrown, .int m_status, .ref y_lane, .ref y_many, .ref y_item, .ref y_city, .ref y_fresh, .int m_isThere, .ref y_tape, .int m_taped, .int m_latest, .int m_length, .int m_cursor, .int m_token, .int m_start, .int m_till, .int m_fault, .int m_faultAt, .int m_seen, .int m_mirrors, .ref y_cost, .ref y_away, .ref y_fee, .ref y_goesTo, .ref y_priceWas, .ref y_isKept, .ref y_kept, .ref y_trace, .int m_traced2_360])), (y_trace, .inl (cI, 16, .inl tr2_361))] H := hP
          have hD : va_D A [(y_city, .inl (cI, 192, .inl cy)), (y, .inr (9, [.int m_thrown, .int m_status, .ref y_lane, .ref y_many, .ref y_item, .ref y_city, .ref y_fresh, .int m_isThere, .ref y_tape, .int m_taped, .int m_latest, .int m_length, .int m_cursor, .int m_token, .int m_start, .int m_till, .int m_fault, .int m_faultAt, .int m_seen, .int m_mirrors, .ref y_cost, .ref y_away, .ref y_fee, .ref y_goesTo, .ref y_priceWas, .ref y_isKept, .ref y_kept, .ref y_trace, .int m_traced2_360])), (y_trace, .inl (cI, 16, .inl tr2_361))] := hD
          refine lv_iload_n S.1 S.2.1 dX9_markOf_46 rfl (lv_at hl 2 rfl) ?_
          refine lv_iconst (v := (4)) S.1 S.2.1 dX9_markOf_47 (by decide) ?_
          refine lv_icmp_ne (tgt := 59) S.1 S.2.1 dX9_markOf_48 (by decide) (fun c_363 => ?_) (fun c_363 => ?_)
          · rw [eq2 (a := kd) (b := 4) (A := kd.toInt) (B := 4) rfl rfl] at c_363
            refine lv_iload_n S.1 S.2.1 dX9_markOf_59 rfl (lv_at hl 2 rfl) ?_
            refine lv_iconst (v := (3)) S.1 S.2.1 dX9_markOf_60 (by decide) ?_
            refine b_ai (wr := [(y_city, .inl (cI, 192, .inl cy)), (y, .inr (9, [.int m_thrown, .int m_status, .ref y_lane, .ref y_many, .ref y_item, .ref y_city, .ref y_fresh, .int m_isThere, .ref y_tape, .int m_taped, .int m_latest, .int m_length, .int m_cursor, .int m_token, .int m_start, .int m_till, .int m_fault, .int m_faultAt, .int m_seen, .int m_mirrors, .ref y_cost, .ref y_away, .ref y_fee, .ref y_goesTo, .ref y_priceWas, .ref y_isKept, .ref y_kept, .ref y_trace, .int m_traced2_360])), (y_trace, .inl (cI, 16, .inl tr2_361))]) (b_runS (As := [.int kd, .int 3]) (s_X9_isOf2 l D cI cZ cC cS sq H.size kd (3)) S gX9_markOf_X9_isOf rfl hdS_X9_isOf ⟨Nat.le_of_ble_eq_true rfl, Nat.le_of_ble_eq_true rfl⟩ ⟨Nat.le_of_ble_eq_true rfl, Nat.le_of_ble_eq_true rfl⟩ hK hT hS hA hP hD [] rfl (by decide) rfl hl.1 rfl (Nat.le_of_ble_eq_true rfl) dX9_markOf_61) hP hD hS hA [] [0, 1, 2] rfl rfl (by decide) (by decide) (fun r_364 w_365 H locs hw_366 hP hD hS => ?_)
            rcases hw_366 with ⟨hf_367, rfl, rfl⟩ | ⟨hf_368, rfl, rfl⟩
            · have hf_367 : ((3) : Int) = 0 ∨ kd.toInt = ((3) : Int) ∨ (((3) : Int) = 3 ∧ kd.toInt = 5) ∨ (((3) : Int) = 2 ∧ (kd.toInt = 3 ∨ kd.toInt = 4 ∨ kd.toInt = 5)) := hf_367
              have hP : va_P D vwCl [(y_city, .inl (cI, 192, .inl cy)), (y, .inr (9, [.int m_thrown, .int m_status, .ref y_lane, .ref y_many, .ref y_item, .ref y_city, .ref y_fresh, .int m_isThere, .ref y_tape, .int m_taped, .int m_latest, .int m_length, .int m_cursor, .int m_token, .int m_start, .int m_till, .int m_fault, .int m_faultAt, .int m_seen, .int m_mirrors, .ref y_cost, .ref y_away, .ref y_fee, .ref y_goesTo, .ref y_priceWas, .ref y_isKept, .ref y_kept, .ref y_trace, .int m_traced2_360])), (y_trace, .inl (cI, 16, .inl tr2_361))] H := hP
              have hD : va_D A [(y_city, .inl (cI, 192, .inl cy)), (y, .inr (9, [.int m_thrown, .int m_status, .ref y_lane, .ref y_many, .ref y_item, .ref y_city, .ref y_fresh, .int m_isThere, .ref y_tape, .int m_taped, .int m_latest, .int m_length, .int m_cursor, .int m_token, .int m_start, .int m_till, .int m_fault, .int m_faultAt, .int m_seen, .int m_mirrors, .ref y_cost, .ref y_away, .ref y_fee, .ref y_goesTo, .ref y_priceWas, .ref y_isKept, .ref y_kept, .ref y_trace, .int m_traced2_360])), (y_trace, .inl (cI, 16, .inl tr2_361))] := hD
              refine lv_if_eq (tgt := 91) S.1 S.2.1 dX9_markOf_64 (by decide) (fun c_369 => absurd c_369 (by decide)) (fun c_369 => ?_)
              refine lv_iload_n S.1 S.2.1 dX9_markOf_67 rfl (lv_at hl 1 rfl) ?_
              refine lv_bipush (v := (100)) S.1 S.2.1 dX9_markOf_68 (by decide) ?_
              refine lv_aload_n S.1 S.2.1 dX9_markOf_70 rfl (lv_at hl 0 rfl) ?_
              refine b_get (v := .ref y_city) S iX9 hK hP 1 rfl rfl 5 (by decide) (by decide +kernel) rfl dX9_markOf_71 ?_
              refine lv_bipush (v := (84)) S.1 S.2.1 dX9_markOf_74 (by decide) ?_
              refine lv_aload_n S.1 S.2.1 dX9_markOf_76 rfl (lv_at hl 0 rfl) ?_
              refine b_get (v := .ref y_city) S iX9 hK hP 1 rfl rfl 5 (by decide) (by decide +kernel) rfl dX9_markOf_77 ?_
              refine lv_iconst (v := (4)) S.1 S.2.1 dX9_markOf_80 (by decide) ?_
              refine lv_iload_n S.1 S.2.1 dX9_markOf_81 rfl (lv_at hl 1 rfl) ?_
              refine lv_iadd S.1 S.2.1 dX9_markOf_82 ?_
              refine lv_topi (fun x_370 ex_370 => ?_)
              have tx_370 : x_370.toInt = 4 + (k.toInt) := addI (A := 4) (B := k.toInt) ex_370 rfl rfl (by omega) (by omega)
              have hin_371 : vp_in x_370 192 := (in_of (n := 192) (by omega) (by omega))
              refine va_iald S.1 S.2.1 hK.1 hP 0 0 rfl rfl hin_371 dX9_markOf_83 ?_
              refine lv_topi (fun x_372 ex_372 => ?_)
              have tx_372 := cyg_A (x := x_372) (show prd cyK 192 cy by assumption) (by omega) ex_372
              have bx_372 : x_372.toInt = (cy (4 + k.toInt.toNat)).toInt := by rw [ex_372, show (x_370).toNatClampNeg = 4 + k.toInt.toNat from by show (x_370).toInt.toNat = _; omega]
              refine lv_iadd S.1 S.2.1 dX9_markOf_84 ?_
              refine lv_topi (fun x_373 ex_373 => ?_)
              have tx_373 : x_373.toInt = 84 + (x_372.toInt) := addI (A := 84) (B := x_372.toInt) ex_373 rfl rfl (by omega) (by omega)
              have hin_374 : vp_in x_373 192 := (in_of (n := 192) (by omega) (by omega))
              refine va_iald S.1 S.2.1 hK.1 hP 0 0 rfl rfl hin_374 dX9_markOf_85 ?_
              refine lv_topi (fun x_375 ex_375 => ?_)
              have tx_375 := cyg_P (x := x_375) (show prd cyK 192 cy by assumption) (by omega) ex_375
              refine lv_imul S.1 S.2.1 dX9_markOf_86 ?_
              refine lv_topi (fun x_376 ex_376 => ?_)
              refine lv_iadd S.1 S.2.1 dX9_markOf_87 ?_
              refine lv_topi (fun x_377 ex_377 => ?_)
              refine lv_goto (tgt := 92) S.1 S.2.1 dX9_markOf_88 (by decide) ?_
              refine lv_istore_n (lv' := [(3, .int x_377), (0, .ref y), (1, .int k), (2, .int kd)]) S.1 S.2.1 dX9_markOf_92 rfl hl (by decide) rfl (fun ls hl => ?_)
              refine lv_iload_n S.1 S.2.1 dX9_markOf_93 rfl (lv_at hl 3 rfl) ?_
              refine lv_iconst (v := (5)) S.1 S.2.1 dX9_markOf_94 (by decide) ?_
              refine lv_icmp_ne (tgt := 106) S.1 S.2.1 dX9_markOf_95 (by decide) (fun c_378 => ?_) (fun c_378 => ?_)
              · rw [eq2 (a := kd) (b := 5) (A := kd.toInt) (B := 5) rfl rfl] at c_378
                refine lv_iload_n S.1 S.2.1 dX9_markOf_106 rfl (lv_at hl 0 rfl) ?_
                have hP := hP.sub (ws' := [(y, .inr (9, [.int m_thrown, .int m_status, .ref y_lane, .ref y_many, .ref y_item, .ref y_city, .ref y_fresh, .int m_isThere, .ref y_tape, .int m_taped, .int m_latest, .int m_length, .int m_cursor, .int m_token, .int m_start, .int m_till, .int m_fault, .int m_faultAt, .int m_seen, .int m_mirrors, .ref y_cost, .ref y_away, .ref y_fee, .ref y_goesTo, .ref y_priceWas, .ref y_isKept, .ref y_kept, .ref y_trace, .int m_traced2_360])), (y_trace, .inl (cI, 16, .inl tr2_361)), (y_city, .inl (cI, 192, .inl cy))]) [1, 2, 0] rfl
                have hD := hD.sub (ws' := [(y, .inr (9, [.int m_thrown, .int m_status, .ref y_lane, .ref y_many, .ref y_item, .ref y_city, .ref y_fresh, .int m_isThere, .ref y_tape, .int m_taped, .int m_latest, .int m_length, .int m_cursor, .int m_token, .int m_start, .int m_till, .int m_fault, .int m_faultAt, .int m_seen, .int m_mirrors, .ref y_cost, .ref y_away, .ref y_fee, .ref y_goesTo, .ref y_priceWas, .ref y_isKept, .ref y_kept, .ref y_trace, .int m_traced2_360])), (y_trace, .inl (cI, 16, .inl tr2_361)), (y_city, .inl (cI, 192, .inl cy))]) [1, 2, 0] (by decide) rfl
                exact b_iret S.1 S.2.1 X.2.1 X.2.2.1 hP hD hS ⟨m_traced2_360, tr2_361, (by first | assumption | omega | decide | (rw [show Int32.toInt 0 = 0 from rfl]; omega)), rfl⟩ dX9_markOf_107
              · rw [eq2 (a := kd) (b := 5) (A := kd.toInt) (B := 5) rfl rfl] at c_378
                refine lv_iload_n S.1 S.2.1 dX9_markOf_98 rfl (lv_at hl 0 rfl) ?_
                refine lv_sipush (v := (1000)) S.1 S.2.1 dX9_markOf_99 (by decide) ?_
                refine lv_isub S.1 S.2.1 dX9_markOf_102 ?_
                refine lv_topi (fun x_379 ex_379 => ?_)
                refine lv_goto (tgt := 107) S.1 S.2.1 dX9_markOf_103 (by decide) ?_
                have hP := hP.sub (ws' := [(y, .inr (9, [.int m_thrown, .int m_status, .ref y_lane, .ref y_many, .ref y_item, .ref y_city, .ref y_fresh, .int m_isThere, .ref y_tape, .int m_taped, .int m_latest, .int m_length, .int m_cursor, .int m_token, .int m_start, .int m_till, .int m_fault, .int m_faultAt, .int m_seen, .int m_mirrors, .ref y_cost, .ref y_away, .ref y_fee, .ref y_goesTo, .ref y_priceWas, .ref y_isKept, .ref y_kept, .ref y_trace, .int m_traced2_360])), (y_trace, .inl (cI, 16, .inl tr2_361)), (y_city, .inl (cI, 192, .inl cy))]) [1, 2, 0] rfl
                have hD := hD.sub (ws' := [(y, .inr (9, [.int m_thrown, .int m_status, .ref y_lane, .ref y_many, .ref y_item, .ref y_city, .ref y_fresh, .int m_isThere, .ref y_tape, .int m_taped, .int m_latest, .int m_length, .int m_cursor, .int m_token, .int m_start, .int m_till, .int m_fault, .int m_faultAt, .int m_seen, .int m_mirrors, .ref y_cost, .ref y_away, .ref y_fee, .ref y_goesTo, .ref y_priceWas, .ref y_isKept, .ref y_kept, .ref y_trace, .int m_traced2_360])), (y_trace, .inl (cI, 16, .inl tr2_361)), (y_city, .inl (cI, 192, .inl cy))]) [1, 2, 0] (by decide) rfl
                exact b_iret S.1 S.2.1 X.2.1 X.2.2.1 hP hD hS ⟨m_traced2_360, tr2_361, (by first | assumption | omega | decide | (rw [show Int32.toInt 0 = 0 from rfl]; omega)), rfl⟩ dX9_markOf_107
            · have hf_368 : ¬ (((3) : Int) = 0 ∨ kd.toInt = ((3) : Int) ∨ (((3) : Int) = 3 ∧ kd.toInt = 5) ∨ (((3) : Int) = 2 ∧ (kd.toInt = 3 ∨ kd.toInt = 4 ∨ kd.toInt = 5))) := hf_368
              have hP : va_P D vwCl [(y_city, .inl (cI, 192, .inl cy)), (y, .inr (9, [.int m_thrown, .int m_status, .ref y_lane, .ref y_many, .ref y_item, .ref y_city, .ref y_fresh, .int m_isThere, .ref y_tape, .int m_taped, .int m_latest, .int m_length, .int m_cursor, .int m_token, .int m_start, .int m_till, .int m_fault, .int m_faultAt, .int m_seen, .int m_mirrors, .ref y_cost, .ref y_away, .ref y_fee, .ref y_goesTo, .ref y_priceWas, .ref y_isKept, .ref y_kept, .ref y_trace, .int m_traced2_360])), (y_trace, .inl (cI, 16, .inl tr2_361))] H := hP
              have hD : va_D A [(y_city, .inl (cI, 192, .inl cy)), (y, .inr (9, [.int m_thrown, .int m_status, .ref y_lane, .ref y_many, .ref y_item, .ref y_city, .ref y_fresh, .int m_isThere, .ref y_tape, .int m_taped, .int m_latest, .int m_length, .int m_cursor, .int m_token, .int m_start, .int m_till, .int m_fault, .int m_faultAt, .int m_seen, .int m_mirrors, .ref y_cost, .ref y_away, .ref y_fee, .ref y_goesTo, .ref y_priceWas, .ref y_isKept, .ref y_kept, .ref y_trace, .int m_traced2_360])), (y_trace, .inl (cI, 16, .inl tr2_361))] := hD
              refine lv_if_eq (tgt := 91) S.1 S.2.1 dX9_markOf_64 (by decide) (fun c_380 => ?_) (fun c_380 => absurd c_380 (by decide))
              refine lv_iload_n S.1 S.2.1 dX9_markOf_91 rfl (lv_at hl 1 rfl) ?_
              refine lv_istore_n (lv' := [(3, .int k), (0, .ref y), (1, .int k), (2, .int kd)]) S.1 S.2.1 dX9_markOf_92 rfl hl (by decide) rfl (fun ls hl => ?_)
              refine lv_iload_n S.1 S.2.1 dX9_markOf_93 rfl (lv_at hl 3 rfl) ?_
              refine lv_iconst (v := (5)) S.1 S.2.1 dX9_markOf_94 (by decide) ?_
              refine lv_icmp_ne (tgt := 106) S.1 S.2.1 dX9_markOf_95 (by decide) (fun c_381 => ?_) (fun c_381 => ?_)
              · rw [eq2 (a := kd) (b := 5) (A := kd.toInt) (B := 5) rfl rfl] at c_381
                refine lv_iload_n S.1 S.2.1 dX9_markOf_106 rfl (lv_at hl 0 rfl) ?_
                have hP := hP.sub (ws' := [(y, .inr (9, [.int m_thrown, .int m_status, .ref y_lane, .ref y_many, .ref y_item, .ref y_city, .ref y_fresh, .int m_isThere, .ref y_tape, .int m_taped, .int m_latest, .int m_length, .int m_cursor, .int m_token, .int m_start, .int m_till, .int m_fault, .int m_faultAt, .int m_seen, .int m_mirrors, .ref y_cost, .ref y_away, .ref y_fee, .ref y_goesTo, .ref y_priceWas, .ref y_isKept, .ref y_kept, .ref y_trace, .int m_traced2_360])), (y_trace, .inl (cI, 16, .inl tr2_361)), (y_city, .inl (cI, 192, .inl cy))]) [1, 2, 0] rfl
                have hD := hD.sub (ws' := [(y, .inr (9, [.int m_thrown, .int m_status, .ref y_lane, .ref y_many, .ref y_item, .ref y_city, .ref y_fresh, .int m_isThere, .ref y_tape, .int m_taped, .int m_latest, .int m_length, .int m_cursor, .int m_token, .int m_start, .int m_till, .int m_fault, .int m_faultAt, .int m_seen, .int m_mirrors, .ref y_cost, .ref y_away, .ref y_fee, .ref y_goesTo, .ref y_priceWas, .ref y_isKept, .ref y_kept, .ref y_trace, .int m_traced2_360])), (y_trace, .inl (cI, 16, .inl tr2_361)), (y_city, .inl (cI, 192, .inl cy))]) [1, 2, 0] (by decide) rfl
                exact b_iret S.1 S.2.1 X.2.1 X.2.2.1 hP hD hS ⟨m_traced2_360, tr2_361, (by first | assumption | omega | decide | (rw [show Int32.toInt 0 = 0 from rfl]; omega)), rfl⟩ dX9_markOf_107
              · rw [eq2 (a := kd) (b := 5) (A := kd.toInt) (B := 5) rfl rfl] at c_381
                refine lv_iload_n S.1 S.2.1 dX9_markOf_98 rfl (lv_at hl 0 rfl) ?_
                refine lv_sipush (v := (1000)) S.1 S.2.1 dX9_markOf_99 (by decide) ?_
                refine lv_isub S.1 S.2.1 dX9_markOf_102 ?_
                refine lv_topi (fun x_382 ex_382 => ?_)
                refine lv_goto (tgt := 107) S.1 S.2.1 dX9_markOf_103 (by decide) ?_
                have hP := hP.sub (ws' := [(y, .inr (9, [.int m_thrown, .int m_status, .ref y_lane, .ref y_many, .ref y_item, .ref y_city, .ref y_fresh, .int m_isThere, .ref y_tape, .int m_taped, .int m_latest, .int m_length, .int m_cursor, .int m_token, .int m_start, .int m_till, .int m_fault, .int m_faultAt, .int m_seen, .int m_mirrors, .ref y_cost, .ref y_away, .ref y_fee, .ref y_goesTo, .ref y_priceWas, .ref y_isKept, .ref y_kept, .ref y_trace, .int m_traced2_360])), (y_trace, .inl (cI, 16, .inl tr2_361)), (y_city, .inl (cI, 192, .inl cy))]) [1, 2, 0] rfl
                have hD := hD.sub (ws' := [(y, .inr (9, [.int m_thrown, .int m_status, .ref y_lane, .ref y_many, .ref y_item, .ref y_city, .ref y_fresh, .int m_isThere, .ref y_tape, .int m_taped, .int m_latest, .int m_length, .int m_cursor, .int m_token, .int m_start, .int m_till, .int m_fault, .int m_faultAt, .int m_seen, .int m_mirrors, .ref y_cost, .ref y_away, .ref y_fee, .ref y_goesTo, .ref y_priceWas, .ref y_isKept, .ref y_kept, .ref y_trace, .int m_traced2_360])), (y_trace, .inl (cI, 16, .inl tr2_361)), (y_city, .inl (cI, 192, .inl cy))]) [1, 2, 0] (by decide) rfl
                exact b_iret S.1 S.2.1 X.2.1 X.2.2.1 hP hD hS ⟨m_traced2_360, tr2_361, (by first | assumption | omega | decide | (rw [show Int32.toInt 0 = 0 from rfl]; omega)), rfl⟩ dX9_markOf_107
          · rw [eq2 (a := kd) (b := 4) (A := kd.toInt) (B := 4) rfl rfl] at c_363
            refine lv_iload_n S.1 S.2.1 dX9_markOf_51 rfl (lv_at hl 1 rfl) ?_
            refine lv_aload_n S.1 S.2.1 dX9_markOf_52 rfl (lv_at hl 0 rfl) ?_
            refine lv_iload_n S.1 S.2.1 dX9_markOf_53 rfl (lv_at hl 1 rfl) ?_
            refine b_ai (wr := []) (b_runV (q0 := 1) (ci := 9) (As := [.int k]) (s_X9_wallSize l D cI cZ cC cS sq H.size y y_trace y_city k m_thrown m_status y_lane y_many y_item y_fresh m_isThere y_tape m_taped m_latest m_length m_cursor m_token m_start m_till m_fault m_faultAt m_seen m_mirrors y_cost y_away y_fee y_goesTo y_priceWas y_isKept y_kept m_traced2_360 tr2_361 cy (by first | assumption | omega | decide | (rw [show Int32.toInt 0 = 0 from rfl]; omega)) (by first | assumption | omega | decide | (rw [show Int32.toInt 0 = 0 from rfl]; omega)) (by first | assumption | omega | decide | (rw [show Int32.toInt 0 = 0 from rfl]; omega))) S gX9_markOf_X9_wallSize rfl hdV_X9_wallSize ⟨Nat.le_of_ble_eq_true rfl, Nat.le_of_ble_eq_true rfl⟩ ⟨Nat.le_of_ble_eq_true rfl, Nat.le_of_ble_eq_true rfl⟩ hK hT hS hA hP hD rfl rfl [1, 2, 0] rfl (by decide) rfl hl.1 rfl (Nat.le_of_ble_eq_true rfl) dX9_markOf_54) hP hD hS hA [1, 2, 0] [] rfl rfl (by decide) (by decide) (fun r_383 w_384 H locs hw_385 hP hD hS => ?_)
            obtain ⟨m_traced2_386, tr2_387, hf_388, rfl⟩ := hw_385
            have hP : va_P D vwCl [(y, .inr (9, [.int m_thrown, .int m_status, .ref y_lane, .ref y_many, .ref y_item, .ref y_city, .ref y_fresh, .int m_isThere, .ref y_tape, .int m_taped, .int m_latest, .int m_length, .int m_cursor, .int m_token, .int m_start, .int m_till, .int m_fault, .int m_faultAt, .int m_seen, .int m_mirrors, .ref y_cost, .ref y_away, .ref y_fee, .ref y_goesTo, .ref y_priceWas, .ref y_isKept, .ref y_kept, .ref y_trace, .int m_traced2_386])), (y_trace, .inl (cI, 16, .inl tr2_387)), (y_city, .inl (cI, 192, .inl cy))] H := hP
            have hD : va_D A [(y, .inr (9, [.int m_thrown, .int m_status, .ref y_lane, .ref y_many, .ref y_item, .ref y_city, .ref y_fresh, .int m_isThere, .ref y_tape, .int m_taped, .int m_latest, .int m_length, .int m_cursor, .int m_token, .int m_start, .int m_till, .int m_fault, .int m_faultAt, .int m_seen, .int m_mirrors, .ref y_cost, .ref y_away, .ref y_fee, .ref y_goesTo, .ref y_priceWas, .ref y_isKept, .ref y_kept, .ref y_trace, .int m_traced2_386])), (y_trace, .inl (cI, 16, .inl tr2_387)), (y_city, .inl (cI, 192, .inl cy))] := hD
            refine lv_iadd S.1 S.2.1 dX9_markOf_57 ?_
            refine lv_topi (fun x_389 ex_389 => ?_)
            exact b_iret S.1 S.2.1 X.2.1 X.2.2.1 hP hD hS ⟨m_traced2_386, tr2_387, (by first | assumption | omega | decide | (rw [show Int32.toInt 0 = 0 from rfl]; omega)), rfl⟩ dX9_markOf_58
        · have hf_349 : ¬ (((3) : Int) = 0 ∨ kd.toInt = ((3) : Int) ∨ (((3) : Int) = 3 ∧ kd.toInt = 5) ∨ (((3) : Int) = 2 ∧ (kd.toInt = 3 ∨ kd.toInt = 4 ∨ kd.toInt = 5))) := hf_349
          have hP : va_P D vwCl [(y_city, .inl (cI, 192, .inl cy)), (y, .inr (9, [.int m_thrown, .int m_status, .ref y_lane, .ref y_many, .ref y_item, .ref y_city, .ref y_fresh, .int m_isThere, .ref y_tape, .int m_taped, .int m_latest, .int m_length, .int m_cursor, .int m_token, .int m_start, .int m_till, .int m_fault, .int m_faultAt, .int m_seen, .int m_mirrors, .ref y_cost, .ref y_away, .ref y_fee, .ref y_goesTo, .ref y_priceWas, .ref y_isKept, .ref y_kept, .ref y_trace, .int m_traced2_342])), (y_trace, .inl (cI, 16, .inl tr2_343))] H := hP
          have hD : va_D A [(y_city, .inl (cI, 192, .inl cy)), (y, .inr (9, [.int m_thrown, .int m_status, .ref y_lane, .ref y_many, .ref y_item, .ref y_city, .ref y_fresh, .int m_isThere, .ref y_tape, .int m_taped, .int m_latest, .int m_length, .int m_cursor, .int m_token, .int m_start, .int m_till, .int m_fault, .int m_faultAt, .int m_seen, .int m_mirrors, .ref y_cost, .ref y_away, .ref y_fee, .ref y_goesTo, .ref y_priceWas, .ref y_isKept, .ref y_kept, .ref y_trace, .int m_traced2_342])), (y_trace, .inl (cI, 16, .inl tr2_343))] := hD
          refine lv_if_eq (tgt := 40) S.1 S.2.1 dX9_markOf_31 (by decide) (fun c_390 => ?_) (fun c_390 => absurd c_390 (by decide))
          refine lv_aload_n S.1 S.2.1 dX9_markOf_40 rfl (lv_at hl 0 rfl) ?_
          refine lv_bipush (v := (20)) S.1 S.2.1 dX9_markOf_41 (by decide) ?_
          refine b_av (wr := [(y_city, .inl (cI, 192, .inl cy))]) (b_runV (q0 := 1) (ci := 9) (As := [.int 20]) (s_X9_began l D cI cZ cC cS sq H.size y y_trace (20) m_thrown m_status y_lane y_many y_item y_city y_fresh m_isThere y_tape m_taped m_latest m_length m_cursor m_token m_start m_till m_fault m_faultAt m_seen m_mirrors y_cost y_away y_fee y_goesTo y_priceWas y_isKept y_kept m_traced2_342 tr2_343 (by first | assumption | omega | decide | (rw [show Int32.toInt 0 = 0 from rfl]; omega))) S gX9_markOf_X9_began rfl hdV_X9_began ⟨Nat.le_of_ble_eq_true rfl, Nat.le_of_ble_eq_true rfl⟩ ⟨Nat.le_of_ble_eq_true rfl, Nat.le_of_ble_eq_true rfl⟩ hK hT hS hA hP hD rfl rfl [1, 2] rfl (by decide) rfl hl.1 rfl (Nat.le_of_ble_eq_true rfl) dX9_markOf_43) hP hD hS hA [1, 2] [0] rfl rfl (by decide) (by decide) (fun w_392 H locs hw_393 hP hD hS => ?_)
          obtain ⟨m_traced2_394, tr2_395, hf_396, rfl⟩ := hw_393
          have hP : va_P D vwCl [(y_city, .inl (cI, 192, .inl cy)), (y, .inr (9, [.int m_thrown, .int m_status, .ref y_lane, .ref y_many, .ref y_item, .ref y_city, .ref y_fresh, .int m_isThere, .ref y_tape, .int m_taped, .int m_latest, .int m_length, .int m_cursor, .int m_token, .int m_start, .int m_till, .int m_fault, .int m_faultAt, .int m_seen, .int m_mirrors, .ref y_cost, .ref y_away, .ref y_fee, .ref y_goesTo, .ref y_priceWas, .ref y_isKept, .ref y_kept, .ref y_trace, .int m_traced2_394])), (y_trace, .inl (cI, 16, .inl tr2_395))] H := hP
          have hD : va_D A [(y_city, .inl (cI, 192, .inl cy)), (y, .inr (9, [.int m_thrown, .int m_status, .ref y_lane, .ref y_many, .ref y_item, .ref y_city, .ref y_fresh, .int m_isThere, .ref y_tape, .int m_taped, .int m_latest, .int m_length, .int m_cursor, .int m_token, .int m_start, .int m_till, .int m_fault, .int m_faultAt, .int m_seen, .int m_mirrors, .ref y_cost, .ref y_away, .ref y_fee, .ref y_goesTo, .ref y_priceWas, .ref y_isKept, .ref y_kept, .ref y_trace, .int m_traced2_394])), (y_trace, .inl (cI, 16, .inl tr2_395))] := hD
          refine lv_iload_n S.1 S.2.1 dX9_markOf_46 rfl (lv_at hl 2 rfl) ?_
          refine lv_iconst (v := (4)) S.1 S.2.1 dX9_markOf_47 (by decide) ?_
          refine lv_icmp_ne (tgt := 59) S.1 S.2.1 dX9_markOf_48 (by decide) (fun c_397 => ?_) (fun c_397 => ?_)
          · rw [eq2 (a := kd) (b := 4) (A := kd.toInt) (B := 4) rfl rfl] at c_397
            refine lv_iload_n S.1 S.2.1 dX9_markOf_59 rfl (lv_at hl 2 rfl) ?_
            refine lv_iconst (v := (3)) S.1 S.2.1 dX9_markOf_60 (by decide) ?_
            refine b_ai (wr := [(y_city, .inl (cI, 192, .inl cy)), (y, .inr (9, [.int m_thrown, .int m_status, .ref y_lane, .ref y_many, .ref y_item, .ref y_city, .ref y_fresh, .int m_isThere, .ref y_tape, .int m_taped, .int m_latest, .int m_length, .int m_cursor, .int m_token, .int m_start, .int m_till, .int m_fault, .int m_faultAt, .int m_seen, .int m_mirrors, .ref y_cost, .ref y_away, .ref y_fee, .ref y_goesTo, .ref y_priceWas, .ref y_isKept, .ref y_kept, .ref y_trace, .int m_traced2_394])), (y_trace, .inl (cI, 16, .inl tr2_395))]) (b_runS (As := [.int kd, .int 3]) (s_X9_isOf2 l D cI cZ cC cS sq H.size kd (3)) S gX9_markOf_X9_isOf rfl hdS_X9_isOf ⟨Nat.le_of_ble_eq_true rfl, Nat.le_of_ble_eq_true rfl⟩ ⟨Nat.le_of_ble_eq_true rfl, Nat.le_of_ble_eq_true rfl⟩ hK hT hS hA hP hD [] rfl (by decide) rfl hl.1 rfl (Nat.le_of_ble_eq_true rfl) dX9_markOf_61) hP hD hS hA [] [0, 1, 2] rfl rfl (by decide) (by decide) (fun r_398 w_399 H locs hw_400 hP hD hS => ?_)
            rcases hw_400 with ⟨hf_401, rfl, rfl⟩ | ⟨hf_402, rfl, rfl⟩
            · have hf_401 : ((3) : Int) = 0 ∨ kd.toInt = ((3) : Int) ∨ (((3) : Int) = 3 ∧ kd.toInt = 5) ∨ (((3) : Int) = 2 ∧ (kd.toInt = 3 ∨ kd.toInt = 4 ∨ kd.toInt = 5)) := hf_401
              have hP : va_P D vwCl [(y_city, .inl (cI, 192, .inl cy)), (y, .inr (9, [.int m_thrown, .int m_status, .ref y_lane, .ref y_many, .ref y_item, .ref y_city, .ref y_fresh, .int m_isThere, .ref y_tape, .int m_taped, .int m_latest, .int m_length, .int m_cursor, .int m_token, .int m_start, .int m_till, .int m_fault, .int m_faultAt, .int m_seen, .int m_mirrors, .ref y_cost, .ref y_away, .ref y_fee, .ref y_goesTo, .ref y_priceWas, .ref y_isKept, .ref y_kept, .ref y_trace, .int m_traced2_394])), (y_trace, .inl (cI, 16, .inl tr2_395))] H := hP
              have hD : va_D A [(y_city, .inl (cI, 192, .inl cy)), (y, .inr (9, [.int m_thrown, .int m_status, .ref y_lane, .ref y_many, .ref y_item, .ref y_city, .ref y_fresh, .int m_isThere, .ref y_tape, .int m_taped, .int m_latest, .int m_length, .int m_cursor, .int m_token, .int m_start, .int m_till, .int m_fault, .int m_faultAt, .int m_seen, .int m_mirrors, .ref y_cost, .ref y_away, .ref y_fee, .ref y_goesTo, .ref y_priceWas, .ref y_isKept, .ref y_kept, .ref y_trace, .int m_traced2_394])), (y_trace, .inl (cI, 16, .inl tr2_395))] := hD
              refine lv_if_eq (tgt := 91) S.1 S.2.1 dX9_markOf_64 (by decide) (fun c_403 => absurd c_403 (by decide)) (fun c_403 => ?_)
              refine lv_iload_n S.1 S.2.1 dX9_markOf_67 rfl (lv_at hl 1 rfl) ?_
              refine lv_bipush (v := (100)) S.1 S.2.1 dX9_markOf_68 (by decide) ?_
              refine lv_aload_n S.1 S.2.1 dX9_markOf_70 rfl (lv_at hl 0 rfl) ?_
              refine b_get (v := .ref y_city) S iX9 hK hP 1 rfl rfl 5 (by decide) (by decide +kernel) rfl dX9_markOf_71 ?_
              refine lv_bipush (v := (84)) S.1 S.2.1 dX9_markOf_74 (by decide) ?_
              refine lv_aload_n S.1 S.2.1 dX9_markOf_76 rfl (lv_at hl 0 rfl) ?_
              refine b_get (v := .ref y_city) S iX9 hK hP 1 rfl rfl 5 (by decide) (by decide +kernel) rfl dX9_markOf_77 ?_
              refine lv_iconst (v := (4)) S.1 S.2.1 dX9_markOf_80 (by decide) ?_
              refine lv_iload_n S.1 S.2.1 dX9_markOf_81 rfl (lv_at hl 1 rfl) ?_
              refine lv_iadd S.1 S.2.1 dX9_markOf_82 ?_
              refine lv_topi (fun x_404 ex_404 => ?_)
              have tx_404 : x_404.toInt = 4 + (k.toInt) := addI (A := 4) (B := k.toInt) ex_404 rfl rfl (by omega) (by omega)
              have hin_405 : vp_in x_404 192 := (in_of (n := 192) (by omega) (by omega))
              refine va_iald S.1 S.2.1 hK.1 hP 0 0 rfl rfl hin_405 dX9_markOf_83 ?_
              refine lv_topi (fun x_406 ex_406 => ?_)
              have tx_406 := cyg_A (x := x_406) (show prd cyK 192 cy by assumption) (by omega) ex_406
              have bx_406 : x_406.toInt = (cy (4 + k.toInt.toNat)).toInt := by rw [ex_406, show (x_404).toNatClampNeg = 4 + k.toInt.toNat from by show (x_404).toInt.toNat = _; omega]
              refine lv_iadd S.1 S.2.1 dX9_markOf_84 ?_
              refine lv_topi (fun x_407 ex_407 => ?_)
              have tx_407 : x_407.toInt = 84 + (x_406.toInt) := addI (A := 84) (B := x_406.toInt) ex_407 rfl rfl (by omega) (by omega)
              have hin_408 : vp_in x_407 192 := (in_of (n := 192) (by omega) (by omega))
              refine va_iald S.1 S.2.1 hK.1 hP 0 0 rfl rfl hin_408 dX9_markOf_85 ?_
              refine lv_topi (fun x_409 ex_409 => ?_)
              have tx_409 := cyg_P (x := x_409) (show prd cyK 192 cy by assumption) (by omega) ex_409
              refine lv_imul S.1 S.2.1 dX9_markOf_86 ?_
              refine lv_topi (fun x_410 ex_410 => ?_)
              refine lv_iadd S.1 S.2.1 dX9_markOf_87 ?_
              refine lv_topi (fun x_411 ex_411 => ?_)
              refine lv_goto (tgt := 92) S.1 S.2.1 dX9_markOf_88 (by decide) ?_
              refine lv_istore_n (lv' := [(3, .int x_411), (0, .ref y), (1, .int k), (2, .int kd)]) S.1 S.2.1 dX9_markOf_92 rfl hl (by decide) rfl (fun ls hl => ?_)
              refine lv_iload_n S.1 S.2.1 dX9_markOf_93 rfl (lv_at hl 3 rfl) ?_
              refine lv_iconst (v := (5)) S.1 S.2.1 dX9_markOf_94 (by decide) ?_
              refine lv_icmp_ne (tgt := 106) S.1 S.2.1 dX9_markOf_95 (by decide) (fun c_412 => ?_) (fun c_412 => ?_)
              · rw [eq2 (a := kd) (b := 5) (A := kd.toInt) (B := 5) rfl rfl] at c_412
                refine lv_iload_n S.1 S.2.1 dX9_markOf_106 rfl (lv_at hl 0 rfl) ?_
                have hP := hP.sub (ws' := [(y, .inr (9, [.int m_thrown, .int m_status, .ref y_lane, .ref y_many, .ref y_item, .ref y_city, .ref y_fresh, .int m_isThere, .ref y_tape, .int m_taped, .int m_latest, .int m_length, .int m_cursor, .int m_token, .int m_start, .int m_till, .int m_fault, .int m_faultAt, .int m_seen, .int m_mirrors, .ref y_cost, .ref y_away, .ref y_fee, .ref y_goesTo, .ref y_priceWas, .ref y_isKept, .ref y_kept, .ref y_trace, .int m_traced2_394])), (y_trace, .inl (cI, 16, .inl tr2_395)), (y_city, .inl (cI, 192, .inl cy))]) [1, 2, 0] rfl
                have hD := hD.sub (ws' := [(y, .inr (9, [.int m_thrown, .int m_status, .ref y_lane, .ref y_many, .ref y_item, .ref y_city, .ref y_fresh, .int m_isThere, .ref y_tape, .int m_taped, .int m_latest, .int m_length, .int m_cursor, .int m_token, .int m_start, .int m_till, .int m_fault, .int m_faultAt, .int m_seen, .int m_mirrors, .ref y_cost, .ref y_away, .ref y_fee, .ref y_goesTo, .ref y_priceWas, .ref y_isKept, .ref y_kept, .ref y_trace, .int m_traced2_394])), (y_trace, .inl (cI, 16, .inl tr2_395)), (y_city, .inl (cI, 192, .inl cy))]) [1, 2, 0] (by decide) rfl
                exact b_iret S.1 S.2.1 X.2.1 X.2.2.1 hP hD hS ⟨m_traced2_394, tr2_395, (by first | assumption | omega | decide | (rw [show Int32.toInt 0 = 0 from rfl]; omega)), rfl⟩ dX9_markOf_107
              · rw [eq2 (a := kd) (b := 5) (A := kd.toInt) (B := 5) rfl rfl] at c_412
                refine lv_iload_n S.1 S.2.1 dX9_markOf_98 rfl (lv_at hl 0 rfl) ?_
                refine lv_sipush (v := (1000)) S.1 S.2.1 dX9_markOf_99 (by decide) ?_
                refine lv_isub S.1 S.2.1 dX9_markOf_102 ?_
                refine lv_topi (fun x_413 ex_413 => ?_)
                refine lv_goto (tgt := 107) S.1 S.2.1 dX9_markOf_103 (by decide) ?_
                have hP := hP.sub (ws' := [(y, .inr (9, [.int m_thrown, .int m_status, .ref y_lane, .ref y_many, .ref y_item, .ref y_city, .ref y_fresh, .int m_isThere, .ref y_tape, .int m_taped, .int m_latest, .int m_length, .int m_cursor, .int m_token, .int m_start, .int m_till, .int m_fault, .int m_faultAt, .int m_seen, .int m_mirrors, .ref y_cost, .ref y_away, .ref y_fee, .ref y_goesTo, .ref y_priceWas, .ref y_isKept, .ref y_kept, .ref y_trace, .int m_traced2_394])), (y_trace, .inl (cI, 16, .inl tr2_395)), (y_city, .inl (cI, 192, .inl cy))]) [1, 2, 0] rfl
                have hD := hD.sub (ws' := [(y, .inr (9, [.int m_thrown, .int m_status, .ref y_lane, .ref y_many, .ref y_item, .ref y_city, .ref y_fresh, .int m_isThere, .ref y_tape, .int m_taped, .int m_latest, .int m_length, .int m_cursor, .int m_token, .int m_start, .int m_till, .int m_fault, .int m_faultAt, .int m_seen, .int m_mirrors, .ref y_cost, .ref y_away, .ref y_fee, .ref y_goesTo, .ref y_priceWas, .ref y_isKept, .ref y_kept, .ref y_trace, .int m_traced2_394])), (y_trace, .inl (cI, 16, .inl tr2_395)), (y_city, .inl (cI, 192, .inl cy))]) [1, 2, 0] (by decide) rfl
                exact b_iret S.1 S.2.1 X.2.1 X.2.2.1 hP hD hS ⟨m_traced2_394, tr2_395, (by first | assumption | omega | decide | (rw [show Int32.toInt 0 = 0 from rfl]; omega)), rfl⟩ dX9_markOf_107
            · have hf_402 : ¬ (((3) : Int) = 0 ∨ kd.toInt = ((3) : Int) ∨ (((3) : Int) = 3 ∧ kd.toInt = 5) ∨ (((3) : Int) = 2 ∧ (kd.toInt = 3 ∨ kd.toInt = 4 ∨ kd.toInt = 5))) := hf_402
              have hP : va_P D vwCl [(y_city, .inl (cI, 192, .inl cy)), (y, .inr (9, [.int m_thrown, .int m_status, .ref y_lane, .ref y_many, .ref y_item, .ref y_city, .ref y_fresh, .int m_isThere, .ref y_tape, .int m_taped, .int m_latest, .int m_length, .int m_cursor, .int m_token, .int m_start, .int m_till, .int m_fault, .int m_faultAt, .int m_seen, .int m_mirrors, .ref y_cost, .ref y_away, .ref y_fee, .ref y_goesTo, .ref y_priceWas, .ref y_isKept, .ref y_kept, .ref y_trace, .int m_traced2_394])), (y_trace, .inl (cI, 16, .inl tr2_395))] H := hP
              have hD : va_D A [(y_city, .inl (cI, 192, .inl cy)), (y, .inr (9, [.int m_thrown, .int m_status, .ref y_lane, .ref y_many, .ref y_item, .ref y_city, .ref y_fresh, .int m_isThere, .ref y_tape, .int m_taped, .int m_latest, .int m_length, .int m_cursor, .int m_token, .int m_start, .int m_till, .int m_fault, .int m_faultAt, .int m_seen, .int m_mirrors, .ref y_cost, .ref y_away, .ref y_fee, .ref y_goesTo, .ref y_priceWas, .ref y_isKept, .ref y_kept, .ref y_trace, .int m_traced2_394])), (y_trace, .inl (cI, 16, .inl tr2_395))] := hD
              refine lv_if_eq (tgt := 91) S.1 S.2.1 dX9_markOf_64 (by decide) (fun c_414 => ?_) (fun c_414 => absurd c_414 (by decide))
              refine lv_iload_n S.1 S.2.1 dX9_markOf_91 rfl (lv_at hl 1 rfl) ?_
              refine lv_istore_n (lv' := [(3, .int k), (0, .ref y), (1, .int k), (2, .int kd)]) S.1 S.2.1 dX9_markOf_92 rfl hl (by decide) rfl (fun ls hl => ?_)
              refine lv_iload_n S.1 S.2.1 dX9_markOf_93 rfl (lv_at hl 3 rfl) ?_
              refine lv_iconst (v := (5)) S.1 S.2.1 dX9_markOf_94 (by decide) ?_
              refine lv_icmp_ne (tgt := 106) S.1 S.2.1 dX9_markOf_95 (by decide) (fun c_415 => ?_) (fun c_415 => ?_)
              · rw [eq2 (a := kd) (b := 5) (A := kd.toInt) (B := 5) rfl rfl] at c_415
                refine lv_iload_n S.1 S.2.1 dX9_markOf_106 rfl (lv_at hl 0 rfl) ?_
                have hP := hP.sub (ws' := [(y, .inr (9, [.int m_thrown, .int m_status, .ref y_lane, .ref y_many, .ref y_item, .ref y_city, .ref y_fresh, .int m_isThere, .ref y_tape, .int m_taped, .int m_latest, .int m_length, .int m_cursor, .int m_token, .int m_start, .int m_till, .int m_fault, .int m_faultAt, .int m_seen, .int m_mirrors, .ref y_cost, .ref y_away, .ref y_fee, .ref y_goesTo, .ref y_priceWas, .ref y_isKept, .ref y_kept, .ref y_trace, .int m_traced2_394])), (y_trace, .inl (cI, 16, .inl tr2_395)), (y_city, .inl (cI, 192, .inl cy))]) [1, 2, 0] rfl
                have hD := hD.sub (ws' := [(y, .inr (9, [.int m_thrown, .int m_status, .ref y_lane, .ref y_many, .ref y_item, .ref y_city, .ref y_fresh, .int m_isThere, .ref y_tape, .int m_taped, .int m_latest, .int m_length, .int m_cursor, .int m_token, .int m_start, .int m_till, .int m_fault, .int m_faultAt, .int m_seen, .int m_mirrors, .ref y_cost, .ref y_away, .ref y_fee, .ref y_goesTo, .ref y_priceWas, .ref y_isKept, .ref y_kept, .ref y_trace, .int m_traced2_394])), (y_trace, .inl (cI, 16, .inl tr2_395)), (y_city, .inl (cI, 192, .inl cy))]) [1, 2, 0] (by decide) rfl
                exact b_iret S.1 S.2.1 X.2.1 X.2.2.1 hP hD hS ⟨m_traced2_394, tr2_395, (by first | assumption | omega | decide | (rw [show Int32.toInt 0 = 0 from rfl]; omega)), rfl⟩ dX9_markOf_107
              · rw [eq2 (a := kd) (b := 5) (A := kd.toInt) (B := 5) rfl rfl] at c_415
                refine lv_iload_n S.1 S.2.1 dX9_markOf_98 rfl (lv_at hl 0 rfl) ?_
                refine lv_sipush (v := (1000)) S.1 S.2.1 dX9_markOf_99 (by decide) ?_
                refine lv_isub S.1 S.2.1 dX9_markOf_102 ?_
                refine lv_topi (fun x_416 ex_416 => ?_)
                refine lv_goto (tgt := 107) S.1 S.2.1 dX9_markOf_103 (by decide) ?_
                have hP := hP.sub (ws' := [(y, .inr (9, [.int m_thrown, .int m_status, .ref y_lane, .ref y_many, .ref y_item, .ref y_city, .ref y_fresh, .int m_isThere, .ref y_tape, .int m_taped, .int m_latest, .int m_length, .int m_cursor, .int m_token, .int m_start, .int m_till, .int m_fault, .int m_faultAt, .int m_seen, .int m_mirrors, .ref y_cost, .ref y_away, .ref y_fee, .ref y_goesTo, .ref y_priceWas, .ref y_isKept, .ref y_kept, .ref y_trace, .int m_traced2_394])), (y_trace, .inl (cI, 16, .inl tr2_395)), (y_city, .inl (cI, 192, .inl cy))]) [1, 2, 0] rfl
                have hD := hD.sub (ws' := [(y, .inr (9, [.int m_thrown, .int m_status, .ref y_lane, .ref y_many, .ref y_item, .ref y_city, .ref y_fresh, .int m_isThere, .ref y_tape, .int m_taped, .int m_latest, .int m_length, .int m_cursor, .int m_token, .int m_start, .int m_till, .int m_fault, .int m_faultAt, .int m_seen, .int m_mirrors, .ref y_cost, .ref y_away, .ref y_fee, .ref y_goesTo, .ref y_priceWas, .ref y_isKept, .ref y_kept, .ref y_trace, .int m_traced2_394])), (y_trace, .inl (cI, 16, .inl tr2_395)), (y_city, .inl (cI, 192, .inl cy))]) [1, 2, 0] (by decide) rfl
                exact b_iret S.1 S.2.1 X.2.1 X.2.2.1 hP hD hS ⟨m_traced2_394, tr2_395, (by first | assumption | omega | decide | (rw [show Int32.toInt 0 = 0 from rfl]; omega)), rfl⟩ dX9_markOf_107
          · rw [eq2 (a := kd) (b := 4) (A := kd.toInt) (B := 4) rfl rfl] at c_397
            refine lv_iload_n S.1 S.2.1 dX9_markOf_51 rfl (lv_at hl 1 rfl) ?_
            refine lv_aload_n S.1 S.2.1 dX9_markOf_52 rfl (lv_at hl 0 rfl) ?_
            refine lv_iload_n S.1 S.2.1 dX9_markOf_53 rfl (lv_at hl 1 rfl) ?_
            refine b_ai (wr := []) (b_runV (q0 := 1) (ci := 9) (As := [.int k]) (s_X9_wallSize l D cI cZ cC cS sq H.size y y_trace y_city k m_thrown m_status y_lane y_many y_item y_fresh m_isThere y_tape m_taped m_latest m_length m_cursor m_token m_start m_till m_fault m_faultAt m_seen m_mirrors y_cost y_away y_fee y_goesTo y_priceWas y_isKept y_kept m_traced2_394 tr2_395 cy (by first | assumption | omega | decide | (rw [show Int32.toInt 0 = 0 from rfl]; omega)) (by first | assumption | omega | decide | (rw [show Int32.toInt 0 = 0 from rfl]; omega)) (by first | assumption | omega | decide | (rw [show Int32.toInt 0 = 0 from rfl]; omega))) S gX9_markOf_X9_wallSize rfl hdV_X9_wallSize ⟨Nat.le_of_ble_eq_true rfl, Nat.le_of_ble_eq_true rfl⟩ ⟨Nat.le_of_ble_eq_true rfl, Nat.le_of_ble_eq_true rfl⟩ hK hT hS hA hP hD rfl rfl [1, 2, 0] rfl (by decide) rfl hl.1 rfl (Nat.le_of_ble_eq_true rfl) dX9_markOf_54) hP hD hS hA [1, 2, 0] [] rfl rfl (by decide) (by decide) (fun r_417 w_418 H locs hw_419 hP hD hS => ?_)
            obtain ⟨m_traced2_420, tr2_421, hf_422, rfl⟩ := hw_419
            have hP : va_P D vwCl [(y, .inr (9, [.int m_thrown, .int m_status, .ref y_lane, .ref y_many, .ref y_item, .ref y_city, .ref y_fresh, .int m_isThere, .ref y_tape, .int m_taped, .int m_latest, .int m_length, .int m_cursor, .int m_token, .int m_start, .int m_till, .int m_fault, .int m_faultAt, .int m_seen, .int m_mirrors, .ref y_cost, .ref y_away, .ref y_fee, .ref y_goesTo, .ref y_priceWas, .ref y_isKept, .ref y_kept, .ref y_trace, .int m_traced2_420])), (y_trace, .inl (cI, 16, .inl tr2_421)), (y_city, .inl (cI, 192, .inl cy))] H := hP
            have hD : va_D A [(y, .inr (9, [.int m_thrown, .int m_status, .ref y_lane, .ref y_many, .ref y_item, .ref y_city, .ref y_fresh, .int m_isThere, .ref y_tape, .int m_taped, .int m_latest, .int m_length, .int m_cursor, .int m_token, .int m_start, .int m_till, .int m_fault, .int m_faultAt, .int m_seen, .int m_mirrors, .ref y_cost, .ref y_away, .ref y_fee, .ref y_goesTo, .ref y_priceWas, .ref y_isKept, .ref y_kept, .ref y_trace, .int m_traced2_420])), (y_trace, .inl (cI, 16, .inl tr2_421)), (y_city, .inl (cI, 192, .inl cy))] := hD
            refine lv_iadd S.1 S.2.1 dX9_markOf_57 ?_
            refine lv_topi (fun x_423 ex_423 => ?_)
            exact b_iret S.1 S.2.1 X.2.1 X.2.2.1 hP hD hS ⟨m_traced2_420, tr2_421, (by first | assumption | omega | decide | (rw [show Int32.toInt 0 = 0 from rfl]; omega)), rfl⟩ dX9_markOf_58
set_option maxHeartbeats 4000000 in
set_option maxRecDepth 100000 in
theorem s_X9_sizeOf (l : Launch) (D : va_G) (cI cZ cC cS : ClassId) (sq : Nat → Nat) (sz : Nat) (y : Nat) (y_trace : Nat) (y_city : Nat) (k : Int32) (kd : Int32) (m_thrown : Int32) (m_status : Int32) (y_lane : Nat) (y_many : Nat) (y_item : Nat) (y_fresh : Nat) (m_isThere : Int32) (y_tape : Nat) (m_taped : Int32) (m_latest : Int32) (m_length : Int32) (m_cursor : Int32) (m_token : Int32) (m_start : Int32) (m_till : Int32) (m_fault : Int32) (m_faultAt : Int32) (m_seen : Int32) (m_mirrors : Int32) (y_cost : Nat) (y_away : Nat) (y_fee : Nat) (y_goesTo : Nat) (y_priceWas : Nat) (y_isKept : Nat) (y_kept : Nat) (m_traced : Int32) (tr : Nat → Int32) (cy : Nat → Int32) (hpd_cy : prd cyK 192 cy) (hk : 0 ≤ k.toInt ∧ k.toInt < 80) (htd : 0 ≤ m_traced.toInt ∧ m_traced.toInt ≤ 16) (hkd : (kd.toInt = 3 ∨ kd.toInt = 5) → 0 ≤ (cy (4 + k.toInt.toNat)).toInt) : mI l yX9_sizeOf wsX9_sizeOf 6 240 D (tyW cI cZ cC cS) sq [(y, .inr (9, [.int m_thrown, .int m_status, .ref y_lane, .ref y_many, .ref y_item, .ref y_city, .ref y_fresh, .int m_isThere, .ref y_tape, .int m_taped, .int m_latest, .int m_length, .int m_cursor, .int m_token, .int m_start, .int m_till, .int m_fault, .int m_faultAt, .int m_seen, .int m_mirrors, .ref y_cost, .ref y_away, .ref y_fee, .ref y_goesTo, .ref y_priceWas, .ref y_isKept, .ref y_kept, .ref y_trace, .int m_traced])), (y_trace, .inl (cI, 16, .inl tr)), (y_city, .inl (cI, 192, .inl cy))] sz [.ref y, .int k, .int kd] (fun r w => (∃ (m_traced2 : Int32), ∃ (tr2 : Nat → Int32), (0 ≤ m_traced2.toInt ∧ m_traced2.toInt ≤ 16) ∧ w = [(y, .inr (9, [.int m_thrown, .int m_status, .ref y_lane, .ref y_many, .ref y_item, .ref y_city, .ref y_fresh, .int m_isThere, .ref y_tape, .int m_taped, .int m_latest, .int m_length, .int m_cursor, .int m_token, .int m_start, .int m_till, .int m_fault, .int m_faultAt, .int m_seen, .int m_mirrors, .ref y_cost, .ref y_away, .ref y_fee, .ref y_goesTo, .ref y_priceWas, .ref y_isKept, .ref y_kept, .ref y_trace, .int m_traced2])), (y_trace, .inl (cI, 16, .inl tr2)), (y_city, .inl (cI, 192, .inl cy))])) := by
  refine b_metI (cc := cX9_sizeOf) (maxL := 4) (ret := (some .int)) (by decide) rfl (Nat.le_of_ble_eq_true rfl) ?_
  intro p e s m below meth c ls A H X hsz hP hK hT hD hA hS hl
  have S : CallFix p m c cX9_sizeOf 4 s ([.ref y, .int k, .int kd] : List Value).toArray wsX9_sizeOf RX9 := X.1
  have hl : lv_has ls 4 [(0, .ref y), (1, .int k), (2, .int kd)] := hl
  refine lv_iload_n S.1 S.2.1 dX9_sizeOf_0 rfl (lv_at hl 2 rfl) ?_
  refine lv_iconst (v := (1)) S.1 S.2.1 dX9_sizeOf_1 (by decide) ?_
  refine lv_icmp_ne (tgt := 26) S.1 S.2.1 dX9_sizeOf_2 (by decide) (fun c_1 => ?_) (fun c_1 => ?_)
  · rw [eq2 (a := kd) (b := 1) (A := kd.toInt) (B := 1) rfl rfl] at c_1
    refine lv_iload_n S.1 S.2.1 dX9_sizeOf_26 rfl (lv_at hl 2 rfl) ?_
    refine lv_iconst (v := (3)) S.1 S.2.1 dX9_sizeOf_27 (by decide) ?_
    refine b_ai (wr := [(y, .inr (9, [.int m_thrown, .int m_status, .ref y_lane, .ref y_many, .ref y_item, .ref y_city, .ref y_fresh, .int m_isThere, .ref y_tape, .int m_taped, .int m_latest, .int m_length, .int m_cursor, .int m_token, .int m_start, .int m_till, .int m_fault, .int m_faultAt, .int m_seen, .int m_mirrors, .ref y_cost, .ref y_away, .ref y_fee, .ref y_goesTo, .ref y_priceWas, .ref y_isKept, .ref y_kept, .ref y_trace, .int m_traced])), (y_trace, .inl (cI, 16, .inl tr)), (y_city, .inl (cI, 192, .inl cy))]) (b_runS (As := [.int kd, .int 3]) (s_X9_isOf2 l D cI cZ cC cS sq H.size kd (3)) S gX9_sizeOf_X9_isOf rfl hdS_X9_isOf ⟨Nat.le_of_ble_eq_true rfl, Nat.le_of_ble_eq_true rfl⟩ ⟨Nat.le_of_ble_eq_true rfl, Nat.le_of_ble_eq_true rfl⟩ hK hT hS hA hP hD [] rfl (by decide) rfl hl.1 rfl (Nat.le_of_ble_eq_true rfl) dX9_sizeOf_28) hP hD hS hA [] [0, 1, 2] rfl rfl (by decide) (by decide) (fun r_2 w_3 H locs hw_4 hP hD hS => ?_)
    rcases hw_4 with ⟨hf_5, rfl, rfl⟩ | ⟨hf_6, rfl, rfl⟩
    · have hf_5 : ((3) : Int) = 0 ∨ kd.toInt = ((3) : Int) ∨ (((3) : Int) = 3 ∧ kd.toInt = 5) ∨ (((3) : Int) = 2 ∧ (kd.toInt = 3 ∨ kd.toInt = 4 ∨ kd.toInt = 5)) := hf_5
      have hP : va_P D vwCl [(y, .inr (9, [.int m_thrown, .int m_status, .ref y_lane, .ref y_many, .ref y_item, .ref y_city, .ref y_fresh, .int m_isThere, .ref y_tape, .int m_taped, .int m_latest, .int m_length, .int m_cursor, .int m_token, .int m_start, .int m_till, .int m_fault, .int m_faultAt, .int m_seen, .int m_mirrors, .ref y_cost, .ref y_away, .ref y_fee, .ref y_goesTo, .ref y_priceWas, .ref y_isKept, .ref y_kept, .ref y_trace, .int m_traced])), (y_trace, .inl (cI, 16, .inl tr)), (y_city, .inl (cI, 192, .inl cy))] H := hP
      have hD : va_D A [(y, .inr (9, [.int m_thrown, .int m_status, .ref y_lane, .ref y_many, .ref y_item, .ref y_city, .ref y_fresh, .int m_isThere, .ref y_tape, .int m_taped, .int m_latest, .int m_length, .int m_cursor, .int m_token, .int m_start, .int m_till, .int m_fault, .int m_faultAt, .int m_seen, .int m_mirrors, .ref y_cost, .ref y_away, .ref y_fee, .ref y_goesTo, .ref y_priceWas, .ref y_isKept, .ref y_kept, .ref y_trace, .int m_traced])), (y_trace, .inl (cI, 16, .inl tr)), (y_city, .inl (cI, 192, .inl cy))] := hD
      refine lv_if_ne (tgt := 40) S.1 S.2.1 dX9_sizeOf_31 (by decide) (fun c_7 => ?_) (fun c_7 => absurd c_7 (by decide))
      refine lv_iload_n S.1 S.2.1 dX9_sizeOf_40 rfl (lv_at hl 2 rfl) ?_
      refine lv_iconst (v := (5)) S.1 S.2.1 dX9_sizeOf_41 (by decide) ?_
      refine lv_icmp_ne (tgt := 51) S.1 S.2.1 dX9_sizeOf_42 (by decide) (fun c_8 => ?_) (fun c_8 => ?_)
      · rw [eq2 (a := kd) (b := 5) (A := kd.toInt) (B := 5) rfl rfl] at c_8
        refine lv_aload_n S.1 S.2.1 dX9_sizeOf_51 rfl (lv_at hl 0 rfl) ?_
        refine lv_bipush (v := (12)) S.1 S.2.1 dX9_sizeOf_52 (by decide) ?_
        refine b_av (wr := [(y_city, .inl (cI, 192, .inl cy))]) (b_runV (q0 := 0) (ci := 9) (As := [.int 12]) (s_X9_began l D cI cZ cC cS sq H.size y y_trace (12) m_thrown m_status y_lane y_many y_item y_city y_fresh m_isThere y_tape m_taped m_latest m_length m_cursor m_token m_start m_till m_fault m_faultAt m_seen m_mirrors y_cost y_away y_fee y_goesTo y_priceWas y_isKept y_kept m_traced tr (by first | assumption | omega | decide | (rw [show Int32.toInt 0 = 0 from rfl]; omega))) S gX9_sizeOf_X9_began rfl hdV_X9_began ⟨Nat.le_of_ble_eq_true rfl, Nat.le_of_ble_eq_true rfl⟩ ⟨Nat.le_of_ble_eq_true rfl, Nat.le_of_ble_eq_true rfl⟩ hK hT hS hA hP hD rfl rfl [0, 1] rfl (by decide) rfl hl.1 rfl (Nat.le_of_ble_eq_true rfl) dX9_sizeOf_54) hP hD hS hA [0, 1] [2] rfl rfl (by decide) (by decide) (fun w_10 H locs hw_11 hP hD hS => ?_)
        obtain ⟨m_traced2_12, tr2_13, hf_14, rfl⟩ := hw_11
        have hP : va_P D vwCl [(y_city, .inl (cI, 192, .inl cy)), (y, .inr (9, [.int m_thrown, .int m_status, .ref y_lane, .ref y_many, .ref y_item, .ref y_city, .ref y_fresh, .int m_isThere, .ref y_tape, .int m_taped, .int m_latest, .int m_length, .int m_cursor, .int m_token, .int m_start, .int m_till, .int m_fault, .int m_faultAt, .int m_seen, .int m_mirrors, .ref y_cost, .ref y_away, .ref y_fee, .ref y_goesTo, .ref y_priceWas, .ref y_isKept, .ref y_kept, .ref y_trace, .int m_traced2_12])), (y_trace, .inl (cI, 16, .inl tr2_13))] H := hP
        have hD : va_D A [(y_city, .inl (cI, 192, .inl cy)), (y, .inr (9, [.int m_thrown, .int m_status, .ref y_lane, .ref y_many, .ref y_item, .ref y_city, .ref y_fresh, .int m_isThere, .ref y_tape, .int m_taped, .int m_latest, .int m_length, .int m_cursor, .int m_token, .int m_start, .int m_till, .int m_fault, .int m_faultAt, .int m_seen, .int m_mirrors, .ref y_cost, .ref y_away, .ref y_fee, .ref y_goesTo, .ref y_priceWas, .ref y_isKept, .ref y_kept, .ref y_trace, .int m_traced2_12])), (y_trace, .inl (cI, 16, .inl tr2_13))] := hD
        refine lv_aload_n S.1 S.2.1 dX9_sizeOf_57 rfl (lv_at hl 0 rfl) ?_
        refine lv_iload_n S.1 S.2.1 dX9_sizeOf_58 rfl (lv_at hl 1 rfl) ?_
        refine b_ai (wr := []) (b_runV (q0 := 1) (ci := 9) (As := [.int k]) (s_X9_wallSize l D cI cZ cC cS sq H.size y y_trace y_city k m_thrown m_status y_lane y_many y_item y_fresh m_isThere y_tape m_taped m_latest m_length m_cursor m_token m_start m_till m_fault m_faultAt m_seen m_mirrors y_cost y_away y_fee y_goesTo y_priceWas y_isKept y_kept m_traced2_12 tr2_13 cy (by first | assumption | omega | decide | (rw [show Int32.toInt 0 = 0 from rfl]; omega)) (by first | assumption | omega | decide | (rw [show Int32.toInt 0 = 0 from rfl]; omega)) (by first | assumption | omega | decide | (rw [show Int32.toInt 0 = 0 from rfl]; omega))) S gX9_sizeOf_X9_wallSize rfl hdV_X9_wallSize ⟨Nat.le_of_ble_eq_true rfl, Nat.le_of_ble_eq_true rfl⟩ ⟨Nat.le_of_ble_eq_true rfl, Nat.le_of_ble_eq_true rfl⟩ hK hT hS hA hP hD rfl rfl [1, 2, 0] rfl (by decide) rfl hl.1 rfl (Nat.le_of_ble_eq_true rfl) dX9_sizeOf_59) hP hD hS hA [1, 2, 0] [] rfl rfl (by decide) (by decide) (fun r_15 w_16 H locs hw_17 hP hD hS => ?_)
        obtain ⟨m_traced2_18, tr2_19, hf_20, rfl⟩ := hw_17
        have hP : va_P D vwCl [(y, .inr (9, [.int m_thrown, .int m_status, .ref y_lane, .ref y_many, .ref y_item, .ref y_city, .ref y_fresh, .int m_isThere, .ref y_tape, .int m_taped, .int m_latest, .int m_length, .int m_cursor, .int m_token, .int m_start, .int m_till, .int m_fault, .int m_faultAt, .int m_seen, .int m_mirrors, .ref y_cost, .ref y_away, .ref y_fee, .ref y_goesTo, .ref y_priceWas, .ref y_isKept, .ref y_kept, .ref y_trace, .int m_traced2_18])), (y_trace, .inl (cI, 16, .inl tr2_19)), (y_city, .inl (cI, 192, .inl cy))] H := hP
        have hD : va_D A [(y, .inr (9, [.int m_thrown, .int m_status, .ref y_lane, .ref y_many, .ref y_item, .ref y_city, .ref y_fresh, .int m_isThere, .ref y_tape, .int m_taped, .int m_latest, .int m_length, .int m_cursor, .int m_token, .int m_start, .int m_till, .int m_fault, .int m_faultAt, .int m_seen, .int m_mirrors, .ref y_cost, .ref y_away, .ref y_fee, .ref y_goesTo, .ref y_priceWas, .ref y_isKept, .ref y_kept, .ref y_trace, .int m_traced2_18])), (y_trace, .inl (cI, 16, .inl tr2_19)), (y_city, .inl (cI, 192, .inl cy))] := hD
        refine lv_istore_n (lv' := [(3, .int r_15), (0, .ref y), (1, .int k), (2, .int kd)]) S.1 S.2.1 dX9_sizeOf_62 rfl hl (by decide) rfl (fun ls hl => ?_)
        refine lv_iload_n S.1 S.2.1 dX9_sizeOf_63 rfl (lv_at hl 0 rfl) ?_
        refine lv_aload_n S.1 S.2.1 dX9_sizeOf_64 rfl (lv_at hl 1 rfl) ?_
        refine lv_iload_n S.1 S.2.1 dX9_sizeOf_65 rfl (lv_at hl 2 rfl) ?_
        refine lv_iload_n S.1 S.2.1 dX9_sizeOf_66 rfl (lv_at hl 3 rfl) ?_
        refine b_ai (wr := []) (b_runV (q0 := 0) (ci := 9) (As := [.int k, .int kd]) (s_X9_markOf l D cI cZ cC cS sq H.size y y_trace y_city k kd m_thrown m_status y_lane y_many y_item y_fresh m_isThere y_tape m_taped m_latest m_length m_cursor m_token m_start m_till m_fault m_faultAt m_seen m_mirrors y_cost y_away y_fee y_goesTo y_priceWas y_isKept y_kept m_traced2_18 tr2_19 cy (by first | assumption | omega | decide | (rw [show Int32.toInt 0 = 0 from rfl]; omega)) (by first | assumption | omega | decide | (rw [show Int32.toInt 0 = 0 from rfl]; omega)) (by first | assumption | omega | decide | (rw [show Int32.toInt 0 = 0 from rfl]; omega)) (by first | assumption | omega | decide | (rw [show Int32.toInt 0 = 0 from rfl]; omega))) S gX9_sizeOf_X9_markOf rfl hdV_X9_markOf ⟨Nat.le_of_ble_eq_true rfl, Nat.le_of_ble_eq_true rfl⟩ ⟨Nat.le_of_ble_eq_true rfl, Nat.le_of_ble_eq_true rfl⟩ hK hT hS hA hP hD rfl rfl [0, 1, 2] rfl (by decide) rfl hl.1 rfl (Nat.le_of_ble_eq_true rfl) dX9_sizeOf_67) hP hD hS hA [0, 1, 2] [] rfl rfl (by decide) (by decide) (fun r_21 w_22 H locs hw_23 hP hD hS => ?_)
        obtain ⟨m_traced2_24, tr2_25, hf_26, rfl⟩ := hw_23
        have hP : va_P D vwCl [(y, .inr (9, [.int m_thrown, .int m_status, .ref y_lane, .ref y_many, .ref y_item, .ref y_city, .ref y_fresh, .int m_isThere, .ref y_tape, .int m_taped, .int m_latest, .int m_length, .int m_cursor, .int m_token, .int m_start, .int m_till, .int m_fault, .int m_faultAt, .int m_seen, .int m_mirrors, .ref y_cost, .ref y_away, .ref y_fee, .ref y_goesTo, .ref y_priceWas, .ref y_isKept, .ref y_kept, .ref y_trace, .int m_traced2_24])), (y_trace, .inl (cI, 16, .inl tr2_25)), (y_city, .inl (cI, 192, .inl cy))] H := hP
        have hD : va_D A [(y, .inr (9, [.int m_thrown, .int m_status, .ref y_lane, .ref y_many, .ref y_item, .ref y_city, .ref y_fresh, .int m_isThere, .ref y_tape, .int m_taped, .int m_latest, .int m_length, .int m_cursor, .int m_token, .int m_start, .int m_till, .int m_fault, .int m_faultAt, .int m_seen, .int m_mirrors, .ref y_cost, .ref y_away, .ref y_fee, .ref y_goesTo, .ref y_priceWas, .ref y_isKept, .ref y_kept, .ref y_trace, .int m_traced2_24])), (y_trace, .inl (cI, 16, .inl tr2_25)), (y_city, .inl (cI, 192, .inl cy))] := hD
        refine lv_iadd S.1 S.2.1 dX9_sizeOf_70 ?_
        refine lv_topi (fun x_27 ex_27 => ?_)
        refine lv_istore_n (lv' := [(3, .int x_27), (0, .ref y), (1, .int k), (2, .int kd)]) S.1 S.2.1 dX9_sizeOf_71 rfl hl (by decide) rfl (fun ls hl => ?_)
        refine lv_iload_n S.1 S.2.1 dX9_sizeOf_72 rfl (lv_at hl 3 rfl) ?_
        refine lv_iconst (v := (5)) S.1 S.2.1 dX9_sizeOf_73 (by decide) ?_
        refine lv_icmp_ne (tgt := 83) S.1 S.2.1 dX9_sizeOf_74 (by decide) (fun c_28 => ?_) (fun c_28 => ?_)
        · rw [eq2 (a := kd) (b := 5) (A := kd.toInt) (B := 5) rfl rfl] at c_28
          refine lv_iload_n S.1 S.2.1 dX9_sizeOf_83 rfl (lv_at hl 0 rfl) ?_
          exact b_iret S.1 S.2.1 X.2.1 X.2.2.1 hP hD hS ⟨m_traced2_24, tr2_25, (by first | assumption | omega | decide | (rw [show Int32.toInt 0 = 0 from rfl]; omega)), rfl⟩ dX9_sizeOf_84
        · rw [eq2 (a := kd) (b := 5) (A := kd.toInt) (B := 5) rfl rfl] at c_28
          refine lv_iconst (v := (2)) S.1 S.2.1 dX9_sizeOf_77 (by decide) ?_
          refine lv_iload_n S.1 S.2.1 dX9_sizeOf_78 rfl (lv_at hl 0 rfl) ?_
          refine lv_imul S.1 S.2.1 dX9_sizeOf_79 ?_
          refine lv_topi (fun x_29 ex_29 => ?_)
          refine lv_goto (tgt := 84) S.1 S.2.1 dX9_sizeOf_80 (by decide) ?_
          exact b_iret S.1 S.2.1 X.2.1 X.2.2.1 hP hD hS ⟨m_traced2_24, tr2_25, (by first | assumption | omega | decide | (rw [show Int32.toInt 0 = 0 from rfl]; omega)), rfl⟩ dX9_sizeOf_84
      · rw [eq2 (a := kd) (b := 5) (A := kd.toInt) (B := 5) rfl rfl] at c_8
        refine lv_aload_n S.1 S.2.1 dX9_sizeOf_45 rfl (lv_at hl 0 rfl) ?_
        refine lv_bipush (v := (13)) S.1 S.2.1 dX9_sizeOf_46 (by decide) ?_
        refine b_av (wr := [(y_city, .inl (cI, 192, .inl cy))]) (b_runV (q0 := 0) (ci := 9) (As := [.int 13]) (s_X9_began l D cI cZ cC cS sq H.size y y_trace (13) m_thrown m_status y_lane y_many y_item y_city y_fresh m_isThere y_tape m_taped m_latest m_length m_cursor m_token m_start m_till m_fault m_faultAt m_seen m_mirrors y_cost y_away y_fee y_goesTo y_priceWas y_isKept y_kept m_traced tr (by first | assumption | omega | decide | (rw [show Int32.toInt 0 = 0 from rfl]; omega))) S gX9_sizeOf_X9_began rfl hdV_X9_began ⟨Nat.le_of_ble_eq_true rfl, Nat.le_of_ble_eq_true rfl⟩ ⟨Nat.le_of_ble_eq_true rfl, Nat.le_of_ble_eq_true rfl⟩ hK hT hS hA hP hD rfl rfl [0, 1] rfl (by decide) rfl hl.1 rfl (Nat.le_of_ble_eq_true rfl) dX9_sizeOf_48) hP hD hS hA [0, 1] [2] rfl rfl (by decide) (by decide) (fun w_31 H locs hw_32 hP hD hS => ?_)
        obtain ⟨m_traced2_33, tr2_34, hf_35, rfl⟩ := hw_32
        have hP : va_P D vwCl [(y_city, .inl (cI, 192, .inl cy)), (y, .inr (9, [.int m_thrown, .int m_status, .ref y_lane, .ref y_many, .ref y_item, .ref y_city, .ref y_fresh, .int m_isThere, .ref y_tape, .int m_taped, .int m_latest, .int m_length, .int m_cursor, .int m_token, .int m_start, .int m_till, .int m_fault, .int m_faultAt, .int m_seen, .int m_mirrors, .ref y_cost, .ref y_away, .ref y_fee, .ref y_goesTo, .ref y_priceWas, .ref y_isKept, .ref y_kept, .ref y_trace, .int m_traced2_33])), (y_trace, .inl (cI, 16, .inl tr2_34))] H := hP
        have hD : va_D A [(y_city, .inl (cI, 192, .inl cy)), (y, .inr (9, [.int m_thrown, .int m_status, .ref y_lane, .ref y_many, .ref y_item, .ref y_city, .ref y_fresh, .int m_isThere, .ref y_tape, .int m_taped, .int m_latest, .int m_length, .int m_cursor, .int m_token, .int m_start, .int m_till, .int m_fault, .int m_faultAt, .int m_seen, .int m_mirrors, .ref y_cost, .ref y_away, .ref y_fee, .ref y_goesTo, .ref y_priceWas, .ref y_isKept, .ref y_kept, .ref y_trace, .int m_traced2_33])), (y_trace, .inl (cI, 16, .inl tr2_34))] := hD
        refine lv_aload_n S.1 S.2.1 dX9_sizeOf_51 rfl (lv_at hl 0 rfl) ?_
        refine lv_bipush (v := (12)) S.1 S.2.1 dX9_sizeOf_52 (by decide) ?_
        refine b_av (wr := [(y_city, .inl (cI, 192, .inl cy))]) (b_runV (q0 := 1) (ci := 9) (As := [.int 12]) (s_X9_began l D cI cZ cC cS sq H.size y y_trace (12) m_thrown m_status y_lane y_many y_item y_city y_fresh m_isThere y_tape m_taped m_latest m_length m_cursor m_token m_start m_till m_fault m_faultAt m_seen m_mirrors y_cost y_away y_fee y_goesTo y_priceWas y_isKept y_kept m_traced2_33 tr2_34 (by first | assumption | omega | decide | (rw [show Int32.toInt 0 = 0 from rfl]; omega))) S gX9_sizeOf_X9_began rfl hdV_X9_began ⟨Nat.le_of_ble_eq_true rfl, Nat.le_of_ble_eq_true rfl⟩ ⟨Nat.le_of_ble_eq_true rfl, Nat.le_of_ble_eq_true rfl⟩ hK hT hS hA hP hD rfl rfl [1, 2] rfl (by decide) rfl hl.1 rfl (Nat.le_of_ble_eq_true rfl) dX9_sizeOf_54) hP hD hS hA [1, 2] [0] rfl rfl (by decide) (by decide) (fun w_37 H locs hw_38 hP hD hS => ?_)
        obtain ⟨m_traced2_39, tr2_40, hf_41, rfl⟩ := hw_38
        have hP : va_P D vwCl [(y_city, .inl (cI, 192, .inl cy)), (y, .inr (9, [.int m_thrown, .int m_status, .ref y_lane, .ref y_many, .ref y_item, .ref y_city, .ref y_fresh, .int m_isThere, .ref y_tape, .int m_taped, .int m_latest, .int m_length, .int m_cursor, .int m_token, .int m_start, .int m_till, .int m_fault, .int m_faultAt, .int m_seen, .int m_mirrors, .ref y_cost, .ref y_away, .ref y_fee, .ref y_goesTo, .ref y_priceWas, .ref y_isKept, .ref y_kept, .ref y_trace, .int m_traced2_39])), (y_trace, .inl (cI, 16, .inl tr2_40))] H := hP
        have hD : va_D A [(y_city, .inl (cI, 192, .inl cy)), (y, .inr (9, [.int m_thrown, .int m_status, .ref y_lane, .ref y_many, .ref y_item, .ref y_city, .ref y_fresh, .int m_isThere, .ref y_tape, .int m_taped, .int m_latest, .int m_length, .int m_cursor, .int m_token, .int m_start, .int m_till, .int m_fault, .int m_faultAt, .int m_seen, .int m_mirrors, .ref y_cost, .ref y_away, .ref y_fee, .ref y_goesTo, .ref y_priceWas, .ref y_isKept, .ref y_kept, .ref y_trace, .int m_traced2_39])), (y_trace, .inl (cI, 16, .inl tr2_40))] := hD
        refine lv_aload_n S.1 S.2.1 dX9_sizeOf_57 rfl (lv_at hl 0 rfl) ?_
        refine lv_iload_n S.1 S.2.1 dX9_sizeOf_58 rfl (lv_at hl 1 rfl) ?_
        refine b_ai (wr := []) (b_runV (q0 := 1) (ci := 9) (As := [.int k]) (s_X9_wallSize l D cI cZ cC cS sq H.size y y_trace y_city k m_thrown m_status y_lane y_many y_item y_fresh m_isThere y_tape m_taped m_latest m_length m_cursor m_token m_start m_till m_fault m_faultAt m_seen m_mirrors y_cost y_away y_fee y_goesTo y_priceWas y_isKept y_kept m_traced2_39 tr2_40 cy (by first | assumption | omega | decide | (rw [show Int32.toInt 0 = 0 from rfl]; omega)) (by first | assumption | omega | decide | (rw [show Int32.toInt 0 = 0 from rfl]; omega)) (by first | assumption | omega | decide | (rw [show Int32.toInt 0 = 0 from rfl]; omega))) S gX9_sizeOf_X9_wallSize rfl hdV_X9_wallSize ⟨Nat.le_of_ble_eq_true rfl, Nat.le_of_ble_eq_true rfl⟩ ⟨Nat.le_of_ble_eq_true rfl, Nat.le_of_ble_eq_true rfl⟩ hK hT hS hA hP hD rfl rfl [1, 2, 0] rfl (by decide) rfl hl.1 rfl (Nat.le_of_ble_eq_true rfl) dX9_sizeOf_59) hP hD hS hA [1, 2, 0] [] rfl rfl (by decide) (by decide) (fun r_42 w_43 H locs hw_44 hP hD hS => ?_)
        obtain ⟨m_traced2_45, tr2_46, hf_47, rfl⟩ := hw_44
        have hP : va_P D vwCl [(y, .inr (9, [.int m_thrown, .int m_status, .ref y_lane, .ref y_many, .ref y_item, .ref y_city, .ref y_fresh, .int m_isThere, .ref y_tape, .int m_taped, .int m_latest, .int m_length, .int m_cursor, .int m_token, .int m_start, .int m_till, .int m_fault, .int m_faultAt, .int m_seen, .int m_mirrors, .ref y_cost, .ref y_away, .ref y_fee, .ref y_goesTo, .ref y_priceWas, .ref y_isKept, .ref y_kept, .ref y_trace, .int m_traced2_45])), (y_trace, .inl (cI, 16, .inl tr2_46)), (y_city, .inl (cI, 192, .inl cy))] H := hP
        have hD : va_D A [(y, .inr (9, [.int m_thrown, .int m_status, .ref y_lane, .ref y_many, .ref y_item, .ref y_city, .ref y_fresh, .int m_isThere, .ref y_tape, .int m_taped, .int m_latest, .int m_length, .int m_cursor, .int m_token, .int m_start, .int m_till, .int m_fault, .int m_faultAt, .int m_seen, .int m_mirrors, .ref y_cost, .ref y_away, .ref y_fee, .ref y_goesTo, .ref y_priceWas, .ref y_isKept, .ref y_kept, .ref y_trace, .int m_traced2_45])), (y_trace, .inl (cI, 16, .inl tr2_46)), (y_city, .inl (cI, 192, .inl cy))] := hD
        refine lv_istore_n (lv' := [(3, .int r_42), (0, .ref y), (1, .int k), (2, .int kd)]) S.1 S.2.1 dX9_sizeOf_62 rfl hl (by decide) rfl (fun ls hl => ?_)
        refine lv_iload_n S.1 S.2.1 dX9_sizeOf_63 rfl (lv_at hl 0 rfl) ?_
        refine lv_aload_n S.1 S.2.1 dX9_sizeOf_64 rfl (lv_at hl 1 rfl) ?_
        refine lv_iload_n S.1 S.2.1 dX9_sizeOf_65 rfl (lv_at hl 2 rfl) ?_
        refine lv_iload_n S.1 S.2.1 dX9_sizeOf_66 rfl (lv_at hl 3 rfl) ?_
        refine b_ai (wr := []) (b_runV (q0 := 0) (ci := 9) (As := [.int k, .int kd]) (s_X9_markOf l D cI cZ cC cS sq H.size y y_trace y_city k kd m_thrown m_status y_lane y_many y_item y_fresh m_isThere y_tape m_taped m_latest m_length m_cursor m_token m_start m_till m_fault m_faultAt m_seen m_mirrors y_cost y_away y_fee y_goesTo y_priceWas y_isKept y_kept m_traced2_45 tr2_46 cy (by first | assumption | omega | decide | (rw [show Int32.toInt 0 = 0 from rfl]; omega)) (by first | assumption | omega | decide | (rw [show Int32.toInt 0 = 0 from rfl]; omega)) (by first | assumption | omega | decide | (rw [show Int32.toInt 0 = 0 from rfl]; omega)) (by first | assumption | omega | decide | (rw [show Int32.toInt 0 = 0 from rfl]; omega))) S gX9_sizeOf_X9_markOf rfl hdV_X9_markOf ⟨Nat.le_of_ble_eq_true rfl, Nat.le_of_ble_eq_true rfl⟩ ⟨Nat.le_of_ble_eq_true rfl, Nat.le_of_ble_eq_true rfl⟩ hK hT hS hA hP hD rfl rfl [0, 1, 2] rfl (by decide) rfl hl.1 rfl (Nat.le_of_ble_eq_true rfl) dX9_sizeOf_67) hP hD hS hA [0, 1, 2] [] rfl rfl (by decide) (by decide) (fun r_48 w_49 H locs hw_50 hP hD hS => ?_)
        obtain ⟨m_traced2_51, tr2_52, hf_53, rfl⟩ := hw_50
        have hP : va_P D vwCl [(y, .inr (9, [.int m_thrown, .int m_status, .ref y_lane, .ref y_many, .ref y_item, .ref y_city, .ref y_fresh, .int m_isThere, .ref y_tape, .int m_taped, .int m_latest, .int m_length, .int m_cursor, .int m_token, .int m_start, .int m_till, .int m_fault, .int m_faultAt, .int m_seen, .int m_mirrors, .ref y_cost, .ref y_away, .ref y_fee, .ref y_goesTo, .ref y_priceWas, .ref y_isKept, .ref y_kept, .ref y_trace, .int m_traced2_51])), (y_trace, .inl (cI, 16, .inl tr2_52)), (y_city, .inl (cI, 192, .inl cy))] H := hP
        have hD : va_D A [(y, .inr (9, [.int m_thrown, .int m_status, .ref y_lane, .ref y_many, .ref y_item, .ref y_city, .ref y_fresh, .int m_isThere, .ref y_tape, .int m_taped, .int m_latest, .int m_length, .int m_cursor, .int m_token, .int m_start, .int m_till, .int m_fault, .int m_faultAt, .int m_seen, .int m_mirrors, .ref y_cost, .ref y_away, .ref y_fee, .ref y_goesTo, .ref y_priceWas, .ref y_isKept, .ref y_kept, .ref y_trace, .int m_traced2_51])), (y_trace, .inl (cI, 16, .inl tr2_52)), (y_city, .inl (cI, 192, .inl cy))] := hD
        refine lv_iadd S.1 S.2.1 dX9_sizeOf_70 ?_
        refine lv_topi (fun x_54 ex_54 => ?_)
        refine lv_istore_n (lv' := [(3, .int x_54), (0, .ref y), (1, .int k), (2, .int kd)]) S.1 S.2.1 dX9_sizeOf_71 rfl hl (by decide) rfl (fun ls hl => ?_)
        refine lv_iload_n S.1 S.2.1 dX9_sizeOf_72 rfl (lv_at hl 3 rfl) ?_
        refine lv_iconst (v := (5)) S.1 S.2.1 dX9_sizeOf_73 (by decide) ?_
        refine lv_icmp_ne (tgt := 83) S.1 S.2.1 dX9_sizeOf_74 (by decide) (fun c_55 => ?_) (fun c_55 => ?_)
        · rw [eq2 (a := kd) (b := 5) (A := kd.toInt) (B := 5) rfl rfl] at c_55
          refine lv_iload_n S.1 S.2.1 dX9_sizeOf_83 rfl (lv_at hl 0 rfl) ?_
          exact b_iret S.1 S.2.1 X.2.1 X.2.2.1 hP hD hS ⟨m_traced2_51, tr2_52, (by first | assumption | omega | decide | (rw [show Int32.toInt 0 = 0 from rfl]; omega)), rfl⟩ dX9_sizeOf_84
        · rw [eq2 (a := kd) (b := 5) (A := kd.toInt) (B := 5) rfl rfl] at c_55
          refine lv_iconst (v := (2)) S.1 S.2.1 dX9_sizeOf_77 (by decide) ?_
          refine lv_iload_n S.1 S.2.1 dX9_sizeOf_78 rfl (lv_at hl 0 rfl) ?_
          refine lv_imul S.1 S.2.1 dX9_sizeOf_79 ?_
          refine lv_topi (fun x_56 ex_56 => ?_)
          refine lv_goto (tgt := 84) S.1 S.2.1 dX9_sizeOf_80 (by decide) ?_
          exact b_iret S.1 S.2.1 X.2.1 X.2.2.1 hP hD hS ⟨m_traced2_51, tr2_52, (by first | assumption | omega | decide | (rw [show Int32.toInt 0 = 0 from rfl]; omega)), rfl⟩ dX9_sizeOf_84
    · have hf_6 : ¬ (((3) : Int) = 0 ∨ kd.toInt = ((3) : Int) ∨ (((3) : Int) = 3 ∧ kd.toInt = 5) ∨ (((3) : Int) = 2 ∧ (kd.toInt = 3 ∨ kd.toInt = 4 ∨ kd.toInt = 5))) := hf_6
      have hP : va_P D vwCl [(y, .inr (9, [.int m_thrown, .int m_status, .ref y_lane, .ref y_many, .ref y_item, .ref y_city, .ref y_fresh, .int m_isThere, .ref y_tape, .int m_taped, .int m_latest, .int m_length, .int m_cursor, .int m_token, .int m_start, .int m_till, .int m_fault, .int m_faultAt, .int m_seen, .int m_mirrors, .ref y_cost, .ref y_away, .ref y_fee, .ref y_goesTo, .ref y_priceWas, .ref y_isKept, .ref y_kept, .ref y_trace, .int m_traced])), (y_trace, .inl (cI, 16, .inl tr)), (y_city, .inl (cI, 192, .inl cy))] H := hP
      have hD : va_D A [(y, .inr (9, [.int m_thrown, .int m_status, .ref y_lane, .ref y_many, .ref y_item, .ref y_city, .ref y_fresh, .int m_isThere, .ref y_tape, .int m_taped, .int m_latest, .int m_length, .int m_cursor, .int m_token, .int m_start, .int m_till, .int m_fault, .int m_faultAt, .int m_seen, .int m_mirrors, .ref y_cost, .ref y_away, .ref y_fee, .ref y_goesTo, .ref y_priceWas, .ref y_isKept, .ref y_kept, .ref y_trace, .int m_traced])), (y_trace, .inl (cI, 16, .inl tr)), (y_city, .inl (cI, 192, .inl cy))] := hD
      refine lv_if_ne (tgt := 40) S.1 S.2.1 dX9_sizeOf_31 (by decide) (fun c_57 => absurd c_57 (by decide)) (fun c_57 => ?_)
      refine lv_aload_n S.1 S.2.1 dX9_sizeOf_34 rfl (lv_at hl 0 rfl) ?_
      refine lv_iload_n S.1 S.2.1 dX9_sizeOf_35 rfl (lv_at hl 1 rfl) ?_
      refine b_ai (wr := []) (b_runV (q0 := 0) (ci := 9) (As := [.int k]) (s_X9_wallSize l D cI cZ cC cS sq H.size y y_trace y_city k m_thrown m_status y_lane y_many y_item y_fresh m_isThere y_tape m_taped m_latest m_length m_cursor m_token m_start m_till m_fault m_faultAt m_seen m_mirrors y_cost y_away y_fee y_goesTo y_priceWas y_isKept y_kept m_traced tr cy (by first | assumption | omega | decide | (rw [show Int32.toInt 0 = 0 from rfl]; omega)) (by first | assumption | omega | decide | (rw [show Int32.toInt 0 = 0 from rfl]; omega)) (by first | assumption | omega | decide | (rw [show Int32.toInt 0 = 0 from rfl]; omega))) S gX9_sizeOf_X9_wallSize rfl hdV_X9_wallSize ⟨Nat.le_of_ble_eq_true rfl, Nat.le_of_ble_eq_true rfl⟩ ⟨Nat.le_of_ble_eq_true rfl, Nat.le_of_ble_eq_true rfl⟩ hK hT hS hA hP hD rfl rfl [0, 1, 2] rfl (by decide) rfl hl.1 rfl (Nat.le_of_ble_eq_true rfl) dX9_sizeOf_36) hP hD hS hA [0, 1, 2] [] rfl rfl (by decide) (by decide) (fun r_58 w_59 H locs hw_60 hP hD hS => ?_)
      obtain ⟨m_traced2_61, tr2_62, hf_63, rfl⟩ := hw_60
      have hP : va_P D vwCl [(y, .inr (9, [.int m_thrown, .int m_status, .ref y_lane, .ref y_many, .ref y_item, .ref y_city, .ref y_fresh, .int m_isThere, .ref y_tape, .int m_taped, .int m_latest, .int m_length, .int m_cursor, .int m_token, .int m_start, .int m_till, .int m_fault, .int m_faultAt, .int m_seen, .int m_mirrors, .ref y_cost, .ref y_away, .ref y_fee, .ref y_goesTo, .ref y_priceWas, .ref y_isKept, .ref y_kept, .ref y_trace, .int m_traced2_61])), (y_trace, .inl (cI, 16, .inl tr2_62)), (y_city, .inl (cI, 192, .inl cy))] H := hP
      have hD : va_D A [(y, .inr (9, [.int m_thrown, .int m_status, .ref y_lane, .ref y_many, .ref y_item, .ref y_city, .ref y_fresh, .int m_isThere, .ref y_tape, .int m_taped, .int m_latest, .int m_length, .int m_cursor, .int m_token, .int m_start, .int m_till, .int m_fault, .int m_faultAt, .int m_seen, .int m_mirrors, .ref y_cost, .ref y_away, .ref y_fee, .ref y_goesTo, .ref y_priceWas, .ref y_isKept, .ref y_kept, .ref y_trace, .int m_traced2_61])), (y_trace, .inl (cI, 16, .inl tr2_62)), (y_city, .inl (cI, 192, .inl cy))] := hD
      exact b_iret S.1 S.2.1 X.2.1 X.2.2.1 hP hD hS ⟨m_traced2_61, tr2_62, (by first | assumption | omega | decide | (rw [show Int32.toInt 0 = 0 from rfl]; omega)), rfl⟩ dX9_sizeOf_39
  · rw [eq2 (a := kd) (b := 1) (A := kd.toInt) (B := 1) rfl rfl] at c_1
    refine lv_aload_n S.1 S.2.1 dX9_sizeOf_5 rfl (lv_at hl 0 rfl) ?_
    refine lv_bipush (v := (14)) S.1 S.2.1 dX9_sizeOf_6 (by decide) ?_
    refine b_av (wr := [(y_city, .inl (cI, 192, .inl cy))]) (b_runV (q0 := 0) (ci := 9) (As := [.int 14]) (s_X9_began l D cI cZ cC cS sq H.size y y_trace (14) m_thrown m_status y_lane y_many y_item y_city y_fresh m_isThere y_tape m_taped m_latest m_length m_cursor m_token m_start m_till m_fault m_faultAt m_seen m_mirrors y_cost y_away y_fee y_goesTo y_priceWas y_isKept y_kept m_traced tr (by first | assumption | omega | decide | (rw [show Int32.toInt 0 = 0 from rfl]; omega))) S gX9_sizeOf_X9_began rfl hdV_X9_began ⟨Nat.le_of_ble_eq_true rfl, Nat.le_of_ble_eq_true rfl⟩ ⟨Nat.le_of_ble_eq_true rfl, Nat.le_of_ble_eq_true rfl⟩ hK hT hS hA hP hD rfl rfl [0, 1] rfl (by decide) rfl hl.1 rfl (Nat.le_of_ble_eq_true rfl) dX9_sizeOf_8) hP hD hS hA [0, 1] [2] rfl rfl (by decide) (by decide) (fun w_65 H locs hw_66 hP hD hS => ?_)
    obtain ⟨m_traced2_67, tr2_68, hf_69, rfl⟩ := hw_66
    have hP : va_P D vwCl [(y_city, .inl (cI, 192, .inl cy)), (y, .inr (9, [.int m_thrown, .int m_status, .ref y_lane, .ref y_many, .ref y_item, .ref y_city, .ref y_fresh, .int m_isThere, .ref y_tape, .int m_taped, .int m_latest, .int m_length, .int m_cursor, .int m_token, .int m_start, .int m_till, .int m_fault, .int m_faultAt, .int m_seen, .int m_mirrors, .ref y_cost, .ref y_away, .ref y_fee, .ref y_goesTo, .ref y_priceWas, .ref y_isKept, .ref y_kept, .ref y_trace, .int m_traced2_67])), (y_trace, .inl (cI, 16, .inl tr2_68))] H := hP
    have hD : va_D A [(y_city, .inl (cI, 192, .inl cy)), (y, .inr (9, [.int m_thrown, .int m_status, .ref y_lane, .ref y_many, .ref y_item, .ref y_city, .ref y_fresh, .int m_isThere, .ref y_tape, .int m_taped, .int m_latest, .int m_length, .int m_cursor, .int m_token, .int m_start, .int m_till, .int m_fault, .int m_faultAt, .int m_seen, .int m_mirrors, .ref y_cost, .ref y_away, .ref y_fee, .ref y_goesTo, .ref y_priceWas, .ref y_isKept, .ref y_kept, .ref y_trace, .int m_traced2_67])), (y_trace, .inl (cI, 16, .inl tr2_68))] := hD
    refine lv_aload_n S.1 S.2.1 dX9_sizeOf_11 rfl (lv_at hl 0 rfl) ?_
    refine lv_iload_n S.1 S.2.1 dX9_sizeOf_12 rfl (lv_at hl 1 rfl) ?_
    refine b_ai (wr := []) (b_runV (q0 := 1) (ci := 9) (As := [.int k]) (s_X9_plainSize l D cI cZ cC cS sq H.size y y_trace y_city k m_thrown m_status y_lane y_many y_item y_fresh m_isThere y_tape m_taped m_latest m_length m_cursor m_token m_start m_till m_fault m_faultAt m_seen m_mirrors y_cost y_away y_fee y_goesTo y_priceWas y_isKept y_kept m_traced2_67 tr2_68 cy (by first | assumption | omega | decide | (rw [show Int32.toInt 0 = 0 from rfl]; omega)) (by first | assumption | omega | decide | (rw [show Int32.toInt 0 = 0 from rfl]; omega)) (by first | assumption | omega | decide | (rw [show Int32.toInt 0 = 0 from rfl]; omega))) S gX9_sizeOf_X9_plainSize rfl hdV_X9_plainSize ⟨Nat.le_of_ble_eq_true rfl, Nat.le_of_ble_eq_true rfl⟩ ⟨Nat.le_of_ble_eq_true rfl, Nat.le_of_ble_eq_true rfl⟩ hK hT hS hA hP hD rfl rfl [1, 2, 0] rfl (by decide) rfl hl.1 rfl (Nat.le_of_ble_eq_true rfl) dX9_sizeOf_13) hP hD hS hA [1, 2, 0] [] rfl rfl (by decide) (by decide) (fun r_70 w_71 H locs hw_72 hP hD hS => ?_)
    obtain ⟨m_traced2_73, tr2_74, hf_75, rfl⟩ := hw_72
    have hP : va_P D vwCl [(y, .inr (9, [.int m_thrown, .int m_status, .ref y_lane, .ref y_many, .ref y_item, .ref y_city, .ref y_fresh, .int m_isThere, .ref y_tape, .int m_taped, .int m_latest, .int m_length, .int m_cursor, .int m_token, .int m_start, .int m_till, .int m_fault, .int m_faultAt, .int m_seen, .int m_mirrors, .ref y_cost, .ref y_away, .ref y_fee, .ref y_goesTo, .ref y_priceWas, .ref y_isKept, .ref y_kept, .ref y_trace, .int m_traced2_73])), (y_trace, .inl (cI, 16, .inl tr2_74)), (y_city, .inl (cI, 192, .inl cy))] H := hP
    have hD : va_D A [(y, .inr (9, [.int m_thrown, .int m_status, .ref y_lane, .ref y_many, .ref y_item, .ref y_city, .ref y_fresh, .int m_isThere, .ref y_tape, .int m_taped, .int m_latest, .int m_length, .int m_cursor, .int m_token, .int m_start, .int m_till, .int m_fault, .int m_faultAt, .int m_seen, .int m_mirrors, .ref y_cost, .ref y_away, .ref y_fee, .ref y_goesTo, .ref y_priceWas, .ref y_isKept, .ref y_kept, .ref y_trace, .int m_traced2_73])), (y_trace, .inl (cI, 16, .inl tr2_74)), (y_city, .inl (cI, 192, .inl cy))] := hD
    refine lv_istore_n (lv' := [(3, .int r_70), (0, .ref y), (1, .int k), (2, .int kd)]) S.1 S.2.1 dX9_sizeOf_16 rfl hl (by decide) rfl (fun ls hl => ?_)
    refine lv_iload_n S.1 S.2.1 dX9_sizeOf_17 rfl (lv_at hl 0 rfl) ?_
    refine lv_aload_n S.1 S.2.1 dX9_sizeOf_18 rfl (lv_at hl 1 rfl) ?_
    refine lv_iload_n S.1 S.2.1 dX9_sizeOf_19 rfl (lv_at hl 2 rfl) ?_
    refine lv_iload_n S.1 S.2.1 dX9_sizeOf_20 rfl (lv_at hl 3 rfl) ?_
    refine b_ai (wr := []) (b_runV (q0 := 0) (ci := 9) (As := [.int k, .int kd]) (s_X9_markOf l D cI cZ cC cS sq H.size y y_trace y_city k kd m_thrown m_status y_lane y_many y_item y_fresh m_isThere y_tape m_taped m_latest m_length m_cursor m_token m_start m_till m_fault m_faultAt m_seen m_mirrors y_cost y_away y_fee y_goesTo y_priceWas y_isKept y_kept m_traced2_73 tr2_74 cy (by first | assumption | omega | decide | (rw [show Int32.toInt 0 = 0 from rfl]; omega)) (by first | assumption | omega | decide | (rw [show Int32.toInt 0 = 0 from rfl]; omega)) (by first | assumption | omega | decide | (rw [show Int32.toInt 0 = 0 from rfl]; omega)) (by first | assumption | omega | decide | (rw [show Int32.toInt 0 = 0 from rfl]; omega))) S gX9_sizeOf_X9_markOf rfl hdV_X9_markOf ⟨Nat.le_of_ble_eq_true rfl, Nat.le_of_ble_eq_true rfl⟩ ⟨Nat.le_of_ble_eq_true rfl, Nat.le_of_ble_eq_true rfl⟩ hK hT hS hA hP hD rfl rfl [0, 1, 2] rfl (by decide) rfl hl.1 rfl (Nat.le_of_ble_eq_true rfl) dX9_sizeOf_21) hP hD hS hA [0, 1, 2] [] rfl rfl (by decide) (by decide) (fun r_76 w_77 H locs hw_78 hP hD hS => ?_)
    obtain ⟨m_traced2_79, tr2_80, hf_81, rfl⟩ := hw_78
    have hP : va_P D vwCl [(y, .inr (9, [.int m_thrown, .int m_status, .ref y_lane, .ref y_many, .ref y_item, .ref y_city, .ref y_fresh, .int m_isThere, .ref y_tape, .int m_taped, .int m_latest, .int m_length, .int m_cursor, .int m_token, .int m_start, .int m_till, .int m_fault, .int m_faultAt, .int m_seen, .int m_mirrors, .ref y_cost, .ref y_away, .ref y_fee, .ref y_goesTo, .ref y_priceWas, .ref y_isKept, .ref y_kept, .ref y_trace, .int m_traced2_79])), (y_trace, .inl (cI, 16, .inl tr2_80)), (y_city, .inl (cI, 192, .inl cy))] H := hP
    have hD : va_D A [(y, .inr (9, [.int m_thrown, .int m_status, .ref y_lane, .ref y_many, .ref y_item, .ref y_city, .ref y_fresh, .int m_isThere, .ref y_tape, .int m_taped, .int m_latest, .int m_length, .int m_cursor, .int m_token, .int m_start, .int m_till, .int m_fault, .int m_faultAt, .int m_seen, .int m_mirrors, .ref y_cost, .ref y_away, .ref y_fee, .ref y_goesTo, .ref y_priceWas, .ref y_isKept, .ref y_kept, .ref y_trace, .int m_traced2_79])), (y_trace, .inl (cI, 16, .inl tr2_80)), (y_city, .inl (cI, 192, .inl cy))] := hD
    refine lv_isub S.1 S.2.1 dX9_sizeOf_24 ?_
    refine lv_topi (fun x_82 ex_82 => ?_)
    exact b_iret S.1 S.2.1 X.2.1 X.2.2.1 hP hD hS ⟨m_traced2_79, tr2_80, (by first | assumption | omega | decide | (rw [show Int32.toInt 0 = 0 from rfl]; omega)), rfl⟩ dX9_sizeOf_25
set_option maxHeartbeats 4000000 in
set_option maxRecDepth 100000 in
theorem s_X9_ask (l : Launch) (D : va_G) (cI cZ cC cS : ClassId) (sq : Nat → Nat) (sz : Nat) (y : Nat) (y_trace : Nat) (y_city : Nat) (k : Int32) (wa : Int32) (m_thrown : Int32) (m_status : Int32) (y_lane : Nat) (y_many : Nat) (y_item : Nat) (y_fresh : Nat) (m_isThere : Int32) (y_tape : Nat) (m_taped : Int32) (m_latest : Int32) (m_length : Int32) (m_cursor : Int32) (m_token : Int32) (m_start : Int32) (m_till : Int32) (m_fault : Int32) (m_faultAt : Int32) (m_seen : Int32) (m_mirrors : Int32) (y_cost : Nat) (y_away : Nat) (y_fee : Nat) (y_goesTo : Nat) (y_priceWas : Nat) (y_isKept : Nat) (y_kept : Nat) (m_traced : Int32) (tr : Nat → Int32) (cy : Nat → Int32) (hpd_cy : prd cyK 192 cy) (htd : 0 ≤ m_traced.toInt ∧ m_traced.toInt ≤ 16) : mI l yX9_ask wsX9_ask 50 2000 D (tyW cI cZ cC cS) sq [(y, .inr (9, [.int m_thrown, .int m_status, .ref y_lane, .ref y_many, .ref y_item, .ref y_city, .ref y_fresh, .int m_isThere, .ref y_tape, .int m_taped, .int m_latest, .int m_length, .int m_cursor, .int m_token, .int m_start, .int m_till, .int m_fault, .int m_faultAt, .int m_seen, .int m_mirrors, .ref y_cost, .ref y_away, .ref y_fee, .ref y_goesTo, .ref y_priceWas, .ref y_isKept, .ref y_kept, .ref y_trace, .int m_traced])), (y_trace, .inl (cI, 16, .inl tr)), (y_city, .inl (cI, 192, .inl cy))] sz [.ref y, .int k, .int wa] (fun r w => (∃ (m_traced2 : Int32), ∃ (tr2 : Nat → Int32), (0 ≤ m_traced2.toInt ∧ m_traced2.toInt ≤ 16) ∧ w = [(y, .inr (9, [.int 0, .int m_status, .ref y_lane, .ref y_many, .ref y_item, .ref y_city, .ref y_fresh, .int m_isThere, .ref y_tape, .int m_taped, .int m_latest, .int m_length, .int m_cursor, .int m_token, .int m_start, .int m_till, .int m_fault, .int m_faultAt, .int m_seen, .int m_mirrors, .ref y_cost, .ref y_away, .ref y_fee, .ref y_goesTo, .ref y_priceWas, .ref y_isKept, .ref y_kept, .ref y_trace, .int m_traced2])), (y_trace, .inl (cI, 16, .inl tr2)), (y_city, .inl (cI, 192, .inl cy))])) := by
  refine b_metI (cc := cX9_ask) (maxL := 3) (ret := (some .int)) (by decide) rfl (Nat.le_of_ble_eq_true rfl) ?_
  intro p e s m below meth c ls A H X hsz hP hK hT hD hA hS hl
  have S : CallFix p m c cX9_ask 3 s ([.ref y, .int k, .int wa] : List Value).toArray wsX9_ask RX9 := X.1
  have hl : lv_has ls 3 [(0, .ref y), (1, .int k), (2, .int wa)] := hl
  have iX9 := jX9_ask_X9
  refine lv_aload_n S.1 S.2.1 dX9_ask_0 rfl (lv_at hl 0 rfl) ?_
  refine lv_iconst (v := (0)) S.1 S.2.1 dX9_ask_1 (by decide) ?_
  refine b_put (v := .int 0) S iX9 tyX9 tyX9_ok nmX9 hK hP hD hS 0 rfl rfl 0 (by decide) (by decide +kernel) rfl rfl rfl (Nat.le_of_ble_eq_true rfl) dX9_ask_2 (fun H locs hP hD hS => ?_)
  have hP : va_P D vwCl [(y, .inr (9, [.int 0, .int m_status, .ref y_lane, .ref y_many, .ref y_item, .ref y_city, .ref y_fresh, .int m_isThere, .ref y_tape, .int m_taped, .int m_latest, .int m_length, .int m_cursor, .int m_token, .int m_start, .int m_till, .int m_fault, .int m_faultAt, .int m_seen, .int m_mirrors, .ref y_cost, .ref y_away, .ref y_fee, .ref y_goesTo, .ref y_priceWas, .ref y_isKept, .ref y_kept, .ref y_trace, .int m_traced])), (y_trace, .inl (cI, 16, .inl tr)), (y_city, .inl (cI, 192, .inl cy))] H := hP
  have hD : va_D A [(y, .inr (9, [.int 0, .int m_status, .ref y_lane, .ref y_many, .ref y_item, .ref y_city, .ref y_fresh, .int m_isThere, .ref y_tape, .int m_taped, .int m_latest, .int m_length, .int m_cursor, .int m_token, .int m_start, .int m_till, .int m_fault, .int m_faultAt, .int m_seen, .int m_mirrors, .ref y_cost, .ref y_away, .ref y_fee, .ref y_goesTo, .ref y_priceWas, .ref y_isKept, .ref y_kept, .ref y_trace, .int m_traced])), (y_trace, .inl (cI, 16, .inl tr)), (y_city, .inl (cI, 192, .inl cy))] := hD
  refine lv_aload_n S.1 S.2.1 dX9_ask_5 rfl (lv_at hl 0 rfl) ?_
  refine lv_iload_n S.1 S.2.1 dX9_ask_6 rfl (lv_at hl 1 rfl) ?_
  refine b_ai (wr := [(y_trace, .inl (cI, 16, .inl tr))]) (b_runV (q0 := 0) (ci := 9) (As := [.int k]) (s_X9_isCell l D cI cZ cC cS sq H.size y y_city k (0) m_status y_lane y_many y_item y_fresh m_isThere y_tape m_taped m_latest m_length m_cursor m_token m_start m_till m_fault m_faultAt m_seen m_mirrors y_cost y_away y_fee y_goesTo y_priceWas y_isKept y_kept y_trace m_traced cy (by first | assumption | omega | decide | (rw [show Int32.toInt 0 = 0 from rfl]; omega))) S gX9_ask_X9_isCell rfl hdV_X9_isCell ⟨Nat.le_of_ble_eq_true rfl, Nat.le_of_ble_eq_true rfl⟩ ⟨Nat.le_of_ble_eq_true rfl, Nat.le_of_ble_eq_true rfl⟩ hK hT hS hA hP hD rfl rfl [0, 2] rfl (by decide) rfl hl.1 rfl (Nat.le_of_ble_eq_true rfl) dX9_ask_7) hP hD hS hA [0, 2] [1] rfl rfl (by decide) (by decide) (fun r_1 w_2 H locs hw_3 hP hD hS => ?_)
  rcases hw_3 with ⟨hf_4, rfl, rfl⟩ | ⟨hf_5, rfl, rfl⟩
  · have hP : va_P D vwCl [(y_trace, .inl (cI, 16, .inl tr)), (y, .inr (9, [.int 0, .int m_status, .ref y_lane, .ref y_many, .ref y_item, .ref y_city, .ref y_fresh, .int m_isThere, .ref y_tape, .int m_taped, .int m_latest, .int m_length, .int m_cursor, .int m_token, .int m_start, .int m_till, .int m_fault, .int m_faultAt, .int m_seen, .int m_mirrors, .ref y_cost, .ref y_away, .ref y_fee, .ref y_goesTo, .ref y_priceWas, .ref y_isKept, .ref y_kept, .ref y_trace, .int m_traced])), (y_city, .inl (cI, 192, .inl cy))] H := hP
    have hD : va_D A [(y_trace, .inl (cI, 16, .inl tr)), (y, .inr (9, [.int 0, .int m_status, .ref y_lane, .ref y_many, .ref y_item, .ref y_city, .ref y_fresh, .int m_isThere, .ref y_tape, .int m_taped, .int m_latest, .int m_length, .int m_cursor, .int m_token, .int m_start, .int m_till, .int m_fault, .int m_faultAt, .int m_seen, .int m_mirrors, .ref y_cost, .ref y_away, .ref y_fee, .ref y_goesTo, .ref y_priceWas, .ref y_isKept, .ref y_kept, .ref y_trace, .int m_traced])), (y_city, .inl (cI, 192, .inl cy))] := hD
    refine lv_if_eq (tgt := 23) S.1 S.2.1 dX9_ask_10 (by decide) (fun c_6 => absurd c_6 (by decide)) (fun c_6 => ?_)
    refine lv_iload_n S.1 S.2.1 dX9_ask_13 rfl (lv_at hl 2 rfl) ?_
    refine lv_i2l (v := wa.toInt64) S.1 S.2.1 dX9_ask_14 rfl ?_
    refine lv_lconst (v := 0) S.1 S.2.1 dX9_ask_15 (by decide) ?_
    refine lv_lconst (v := 1) S.1 S.2.1 dX9_ask_16 (by decide) ?_
    refine b_ai (wr := [(y_trace, .inl (cI, 16, .inl tr)), (y, .inr (9, [.int 0, .int m_status, .ref y_lane, .ref y_many, .ref y_item, .ref y_city, .ref y_fresh, .int m_isThere, .ref y_tape, .int m_taped, .int m_latest, .int m_length, .int m_cursor, .int m_token, .int m_start, .int m_till, .int m_fault, .int m_faultAt, .int m_seen, .int m_mirrors, .ref y_cost, .ref y_away, .ref y_fee, .ref y_goesTo, .ref y_priceWas, .ref y_isKept, .ref y_kept, .ref y_trace, .int m_traced])), (y_city, .inl (cI, 192, .inl cy))]) (b_runS (As := [.long (wa.toInt64), .long 0, .long 1]) (s_X9_in l D cI cZ cC cS sq H.size (wa.toInt64) (0) (1)) S gX9_ask_X9_in rfl hdS_X9_in ⟨Nat.le_of_ble_eq_true rfl, Nat.le_of_ble_eq_true rfl⟩ ⟨Nat.le_of_ble_eq_true rfl, Nat.le_of_ble_eq_true rfl⟩ hK hT hS hA hP hD [] rfl (by decide) rfl hl.1 rfl (Nat.le_of_ble_eq_true rfl) dX9_ask_17) hP hD hS hA [] [0, 1, 2] rfl rfl (by decide) (by decide) (fun r_7 w_8 H locs hw_9 hP hD hS => ?_)
    rcases hw_9 with ⟨hf_10, rfl, rfl⟩ | ⟨hf_11, rfl, rfl⟩
    · have hf_10 : (0) ≤ wa.toInt ∧ wa.toInt ≤ (1) := by simp only [Int32.toInt_toInt64] at hf_10; exact hf_10
      have hP : va_P D vwCl [(y_trace, .inl (cI, 16, .inl tr)), (y, .inr (9, [.int 0, .int m_status, .ref y_lane, .ref y_many, .ref y_item, .ref y_city, .ref y_fresh, .int m_isThere, .ref y_tape, .int m_taped, .int m_latest, .int m_length, .int m_cursor, .int m_token, .int m_start, .int m_till, .int m_fault, .int m_faultAt, .int m_seen, .int m_mirrors, .ref y_cost, .ref y_away, .ref y_fee, .ref y_goesTo, .ref y_priceWas, .ref y_isKept, .ref y_kept, .ref y_trace, .int m_traced])), (y_city, .inl (cI, 192, .inl cy))] H := hP
      have hD : va_D A [(y_trace, .inl (cI, 16, .inl tr)), (y, .inr (9, [.int 0, .int m_status, .ref y_lane, .ref y_many, .ref y_item, .ref y_city, .ref y_fresh, .int m_isThere, .ref y_tape, .int m_taped, .int m_latest, .int m_length, .int m_cursor, .int m_token, .int m_start, .int m_till, .int m_fault, .int m_faultAt, .int m_seen, .int m_mirrors, .ref y_cost, .ref y_away, .ref y_fee, .ref y_goesTo, .ref y_priceWas, .ref y_isKept, .ref y_kept, .ref y_trace, .int m_traced])), (y_city, .inl (cI, 192, .inl cy))] := hD
      refine lv_if_ne (tgt := 26) S.1 S.2.1 dX9_ask_20 (by decide) (fun c_12 => ?_) (fun c_12 => absurd c_12 (by decide))
      refine lv_aload_n S.1 S.2.1 dX9_ask_26 rfl (lv_at hl 0 rfl) ?_
      refine lv_iconst (v := (0)) S.1 S.2.1 dX9_ask_27 (by decide) ?_
      refine b_put (v := .int 0) S iX9 tyX9 tyX9_ok nmX9 hK hP hD hS 1 rfl rfl 28 (by decide) (by decide +kernel) rfl rfl rfl (Nat.le_of_ble_eq_true rfl) dX9_ask_28 (fun H locs hP hD hS => ?_)
      have hP : va_P D vwCl [(y_trace, .inl (cI, 16, .inl tr)), (y, .inr (9, [.int 0, .int m_status, .ref y_lane, .ref y_many, .ref y_item, .ref y_city, .ref y_fresh, .int m_isThere, .ref y_tape, .int m_taped, .int m_latest, .int m_length, .int m_cursor, .int m_token, .int m_start, .int m_till, .int m_fault, .int m_faultAt, .int m_seen, .int m_mirrors, .ref y_cost, .ref y_away, .ref y_fee, .ref y_goesTo, .ref y_priceWas, .ref y_isKept, .ref y_kept, .ref y_trace, .int 0])), (y_city, .inl (cI, 192, .inl cy))] H := hP
      have hD : va_D A [(y_trace, .inl (cI, 16, .inl tr)), (y, .inr (9, [.int 0, .int m_status, .ref y_lane, .ref y_many, .ref y_item, .ref y_city, .ref y_fresh, .int m_isThere, .ref y_tape, .int m_taped, .int m_latest, .int m_length, .int m_cursor, .int m_token, .int m_start, .int m_till, .int m_fault, .int m_faultAt, .int m_seen, .int m_mirrors, .ref y_cost, .ref y_away, .ref y_fee, .ref y_goesTo, .ref y_priceWas, .ref y_isKept, .ref y_kept, .ref y_trace, .int 0])), (y_city, .inl (cI, 192, .inl cy))] := hD
      refine lv_iload_n S.1 S.2.1 dX9_ask_31 rfl (lv_at hl 2 rfl) ?_
      refine lv_if_ne (tgt := 48) S.1 S.2.1 dX9_ask_32 (by decide) (fun c_13 => ?_) (fun c_13 => ?_)
      · rw [eq2 (a := wa) (b := 0) (A := wa.toInt) (B := 0) rfl rfl] at c_13
        refine lv_aload_n S.1 S.2.1 dX9_ask_48 rfl (lv_at hl 0 rfl) ?_
        refine lv_iload_n S.1 S.2.1 dX9_ask_49 rfl (lv_at hl 1 rfl) ?_
        refine lv_aload_n S.1 S.2.1 dX9_ask_50 rfl (lv_at hl 0 rfl) ?_
        refine lv_iload_n S.1 S.2.1 dX9_ask_51 rfl (lv_at hl 1 rfl) ?_
        refine b_ai (wr := [(y_trace, .inl (cI, 16, .inl tr))]) (b_runV (q0 := 1) (ci := 9) (As := [.int k]) (s_X9_kindOf l D cI cZ cC cS sq H.size y y_city k (0) m_status y_lane y_many y_item y_fresh m_isThere y_tape m_taped m_latest m_length m_cursor m_token m_start m_till m_fault m_faultAt m_seen m_mirrors y_cost y_away y_fee y_goesTo y_priceWas y_isKept y_kept y_trace (0) cy (by first | assumption | omega | decide | (rw [show Int32.toInt 0 = 0 from rfl]; omega)) (by first | assumption | omega | decide | (rw [show Int32.toInt 0 = 0 from rfl]; omega))) S gX9_ask_X9_kindOf rfl hdV_X9_kindOf ⟨Nat.le_of_ble_eq_true rfl, Nat.le_of_ble_eq_true rfl⟩ ⟨Nat.le_of_ble_eq_true rfl, Nat.le_of_ble_eq_true rfl⟩ hK hT hS hA hP hD rfl rfl [1, 2] rfl (by decide) rfl hl.1 rfl (Nat.le_of_ble_eq_true rfl) dX9_ask_52) hP hD hS hA [1, 2] [0] rfl rfl (by decide) (by decide) (fun r_14 w_15 H locs hw_16 hP hD hS => ?_)
        obtain ⟨hf_17, hf_18, rfl⟩ := hw_16
        have hP : va_P D vwCl [(y_trace, .inl (cI, 16, .inl tr)), (y, .inr (9, [.int 0, .int m_status, .ref y_lane, .ref y_many, .ref y_item, .ref y_city, .ref y_fresh, .int m_isThere, .ref y_tape, .int m_taped, .int m_latest, .int m_length, .int m_cursor, .int m_token, .int m_start, .int m_till, .int m_fault, .int m_faultAt, .int m_seen, .int m_mirrors, .ref y_cost, .ref y_away, .ref y_fee, .ref y_goesTo, .ref y_priceWas, .ref y_isKept, .ref y_kept, .ref y_trace, .int 0])), (y_city, .inl (cI, 192, .inl cy))] H := hP
        have hD : va_D A [(y_trace, .inl (cI, 16, .inl tr)), (y, .inr (9, [.int 0, .int m_status, .ref y_lane, .ref y_many, .ref y_item, .ref y_city, .ref y_fresh, .int m_isThere, .ref y_tape, .int m_taped, .int m_latest, .int m_length, .int m_cursor, .int m_token, .int m_start, .int m_till, .int m_fault, .int m_faultAt, .int m_seen, .int m_mirrors, .ref y_cost, .ref y_away, .ref y_fee, .ref y_goesTo, .ref y_priceWas, .ref y_isKept, .ref y_kept, .ref y_trace, .int 0])), (y_city, .inl (cI, 192, .inl cy))] := hD
        refine b_ai (wr := []) (b_runV (q0 := 1) (ci := 9) (As := [.int k, .int r_14]) (s_X9_markOf l D cI cZ cC cS sq H.size y y_trace y_city k r_14 (0) m_status y_lane y_many y_item y_fresh m_isThere y_tape m_taped m_latest m_length m_cursor m_token m_start m_till m_fault m_faultAt m_seen m_mirrors y_cost y_away y_fee y_goesTo y_priceWas y_isKept y_kept (0) tr cy (by first | assumption | omega | decide | (rw [show Int32.toInt 0 = 0 from rfl]; omega)) (by first | assumption | omega | decide | (rw [show Int32.toInt 0 = 0 from rfl]; omega)) (by first | assumption | omega | decide | (rw [show Int32.toInt 0 = 0 from rfl]; omega)) (by first | assumption | omega | decide | (rw [show Int32.toInt 0 = 0 from rfl]; omega))) S gX9_ask_X9_markOf rfl hdV_X9_markOf ⟨Nat.le_of_ble_eq_true rfl, Nat.le_of_ble_eq_true rfl⟩ ⟨Nat.le_of_ble_eq_true rfl, Nat.le_of_ble_eq_true rfl⟩ hK hT hS hA hP hD rfl rfl [1, 0, 2] rfl (by decide) rfl hl.1 rfl (Nat.le_of_ble_eq_true rfl) dX9_ask_55) hP hD hS hA [1, 0, 2] [] rfl rfl (by decide) (by decide) (fun r_19 w_20 H locs hw_21 hP hD hS => ?_)
        obtain ⟨m_traced2_22, tr2_23, hf_24, rfl⟩ := hw_21
        have hP : va_P D vwCl [(y, .inr (9, [.int 0, .int m_status, .ref y_lane, .ref y_many, .ref y_item, .ref y_city, .ref y_fresh, .int m_isThere, .ref y_tape, .int m_taped, .int m_latest, .int m_length, .int m_cursor, .int m_token, .int m_start, .int m_till, .int m_fault, .int m_faultAt, .int m_seen, .int m_mirrors, .ref y_cost, .ref y_away, .ref y_fee, .ref y_goesTo, .ref y_priceWas, .ref y_isKept, .ref y_kept, .ref y_trace, .int m_traced2_22])), (y_trace, .inl (cI, 16, .inl tr2_23)), (y_city, .inl (cI, 192, .inl cy))] H := hP
        have hD : va_D A [(y, .inr (9, [.int 0, .int m_status, .ref y_lane, .ref y_many, .ref y_item, .ref y_city, .ref y_fresh, .int m_isThere, .ref y_tape, .int m_taped, .int m_latest, .int m_length, .int m_cursor, .int m_token, .int m_start, .int m_till, .int m_fault, .int m_faultAt, .int m_seen, .int m_mirrors, .ref y_cost, .ref y_away, .ref y_fee, .ref y_goesTo, .ref y_priceWas, .ref y_isKept, .ref y_kept, .ref y_trace, .int m_traced2_22])), (y_trace, .inl (cI, 16, .inl tr2_23)), (y_city, .inl (cI, 192, .inl cy))] := hD
        exact b_iret S.1 S.2.1 X.2.1 X.2.2.1 hP hD hS ⟨m_traced2_22, tr2_23, (by first | assumption | omega | decide | (rw [show Int32.toInt 0 = 0 from rfl]; omega)), rfl⟩ dX9_ask_58
      · rw [eq2 (a := wa) (b := 0) (A := wa.toInt) (B := 0) rfl rfl] at c_13
        refine lv_aload_n S.1 S.2.1 dX9_ask_35 rfl (lv_at hl 0 rfl) ?_
        refine lv_iload_n S.1 S.2.1 dX9_ask_36 rfl (lv_at hl 1 rfl) ?_
        refine lv_aload_n S.1 S.2.1 dX9_ask_37 rfl (lv_at hl 0 rfl) ?_
        refine lv_iload_n S.1 S.2.1 dX9_ask_38 rfl (lv_at hl 1 rfl) ?_
        refine b_ai (wr := [(y_trace, .inl (cI, 16, .inl tr))]) (b_runV (q0 := 1) (ci := 9) (As := [.int k]) (s_X9_kindOf l D cI cZ cC cS sq H.size y y_city k (0) m_status y_lane y_many y_item y_fresh m_isThere y_tape m_taped m_latest m_length m_cursor m_token m_start m_till m_fault m_faultAt m_seen m_mirrors y_cost y_away y_fee y_goesTo y_priceWas y_isKept y_kept y_trace (0) cy (by first | assumption | omega | decide | (rw [show Int32.toInt 0 = 0 from rfl]; omega)) (by first | assumption | omega | decide | (rw [show Int32.toInt 0 = 0 from rfl]; omega))) S gX9_ask_X9_kindOf rfl hdV_X9_kindOf ⟨Nat.le_of_ble_eq_true rfl, Nat.le_of_ble_eq_true rfl⟩ ⟨Nat.le_of_ble_eq_true rfl, Nat.le_of_ble_eq_true rfl⟩ hK hT hS hA hP hD rfl rfl [1, 2] rfl (by decide) rfl hl.1 rfl (Nat.le_of_ble_eq_true rfl) dX9_ask_39) hP hD hS hA [1, 2] [0] rfl rfl (by decide) (by decide) (fun r_25 w_26 H locs hw_27 hP hD hS => ?_)
        obtain ⟨hf_28, hf_29, rfl⟩ := hw_27
        have hP : va_P D vwCl [(y_trace, .inl (cI, 16, .inl tr)), (y, .inr (9, [.int 0, .int m_status, .ref y_lane, .ref y_many, .ref y_item, .ref y_city, .ref y_fresh, .int m_isThere, .ref y_tape, .int m_taped, .int m_latest, .int m_length, .int m_cursor, .int m_token, .int m_start, .int m_till, .int m_fault, .int m_faultAt, .int m_seen, .int m_mirrors, .ref y_cost, .ref y_away, .ref y_fee, .ref y_goesTo, .ref y_priceWas, .ref y_isKept, .ref y_kept, .ref y_trace, .int 0])), (y_city, .inl (cI, 192, .inl cy))] H := hP
        have hD : va_D A [(y_trace, .inl (cI, 16, .inl tr)), (y, .inr (9, [.int 0, .int m_status, .ref y_lane, .ref y_many, .ref y_item, .ref y_city, .ref y_fresh, .int m_isThere, .ref y_tape, .int m_taped, .int m_latest, .int m_length, .int m_cursor, .int m_token, .int m_start, .int m_till, .int m_fault, .int m_faultAt, .int m_seen, .int m_mirrors, .ref y_cost, .ref y_away, .ref y_fee, .ref y_goesTo, .ref y_priceWas, .ref y_isKept, .ref y_kept, .ref y_trace, .int 0])), (y_city, .inl (cI, 192, .inl cy))] := hD
        refine b_ai (wr := []) (b_runV (q0 := 1) (ci := 9) (As := [.int k, .int r_25]) (s_X9_sizeOf l D cI cZ cC cS sq H.size y y_trace y_city k r_25 (0) m_status y_lane y_many y_item y_fresh m_isThere y_tape m_taped m_latest m_length m_cursor m_token m_start m_till m_fault m_faultAt m_seen m_mirrors y_cost y_away y_fee y_goesTo y_priceWas y_isKept y_kept (0) tr cy (by first | assumption | omega | decide | (rw [show Int32.toInt 0 = 0 from rfl]; omega)) (by first | assumption | omega | decide | (rw [show Int32.toInt 0 = 0 from rfl]; omega)) (by first | assumption | omega | decide | (rw [show Int32.toInt 0 = 0 from rfl]; omega)) (by first | assumption | omega | decide | (rw [show Int32.toInt 0 = 0 from rfl]; omega))) S gX9_ask_X9_sizeOf rfl hdV_X9_sizeOf ⟨Nat.le_of_ble_eq_true rfl, Nat.le_of_ble_eq_true rfl⟩ ⟨Nat.le_of_ble_eq_true rfl, Nat.le_of_ble_eq_true rfl⟩ hK hT hS hA hP hD rfl rfl [1, 0, 2] rfl (by decide) rfl hl.1 rfl (Nat.le_of_ble_eq_true rfl) dX9_ask_42) hP hD hS hA [1, 0, 2] [] rfl rfl (by decide) (by decide) (fun r_30 w_31 H locs hw_32 hP hD hS => ?_)
        obtain ⟨m_traced2_33, tr2_34, hf_35, rfl⟩ := hw_32
        have hP : va_P D vwCl [(y, .inr (9, [.int 0, .int m_status, .ref y_lane, .ref y_many, .ref y_item, .ref y_city, .ref y_fresh, .int m_isThere, .ref y_tape, .int m_taped, .int m_latest, .int m_length, .int m_cursor, .int m_token, .int m_start, .int m_till, .int m_fault, .int m_faultAt, .int m_seen, .int m_mirrors, .ref y_cost, .ref y_away, .ref y_fee, .ref y_goesTo, .ref y_priceWas, .ref y_isKept, .ref y_kept, .ref y_trace, .int m_traced2_33])), (y_trace, .inl (cI, 16, .inl tr2_34)), (y_city, .inl (cI, 192, .inl cy))] H := hP
        have hD : va_D A [(y, .inr (9, [.int 0, .int m_status, .ref y_lane, .ref y_many, .ref y_item, .ref y_city, .ref y_fresh, .int m_isThere, .ref y_tape, .int m_taped, .int m_latest, .int m_length, .int m_cursor, .int m_token, .int m_start, .int m_till, .int m_fault, .int m_faultAt, .int m_seen, .int m_mirrors, .ref y_cost, .ref y_away, .ref y_fee, .ref y_goesTo, .ref y_priceWas, .ref y_isKept, .ref y_kept, .ref y_trace, .int m_traced2_33])), (y_trace, .inl (cI, 16, .inl tr2_34)), (y_city, .inl (cI, 192, .inl cy))] := hD
        refine lv_goto (tgt := 58) S.1 S.2.1 dX9_ask_45 (by decide) ?_
        exact b_iret S.1 S.2.1 X.2.1 X.2.2.1 hP hD hS ⟨m_traced2_33, tr2_34, (by first | assumption | omega | decide | (rw [show Int32.toInt 0 = 0 from rfl]; omega)), rfl⟩ dX9_ask_58
    · have hf_11 : wa.toInt < (0) ∨ (1) < wa.toInt := by simp only [Int32.toInt_toInt64] at hf_11; exact hf_11
      have hP : va_P D vwCl [(y_trace, .inl (cI, 16, .inl tr)), (y, .inr (9, [.int 0, .int m_status, .ref y_lane, .ref y_many, .ref y_item, .ref y_city, .ref y_fresh, .int m_isThere, .ref y_tape, .int m_taped, .int m_latest, .int m_length, .int m_cursor, .int m_token, .int m_start, .int m_till, .int m_fault, .int m_faultAt, .int m_seen, .int m_mirrors, .ref y_cost, .ref y_away, .ref y_fee, .ref y_goesTo, .ref y_priceWas, .ref y_isKept, .ref y_kept, .ref y_trace, .int m_traced])), (y_city, .inl (cI, 192, .inl cy))] H := hP
      have hD : va_D A [(y_trace, .inl (cI, 16, .inl tr)), (y, .inr (9, [.int 0, .int m_status, .ref y_lane, .ref y_many, .ref y_item, .ref y_city, .ref y_fresh, .int m_isThere, .ref y_tape, .int m_taped, .int m_latest, .int m_length, .int m_cursor, .int m_token, .int m_start, .int m_till, .int m_fault, .int m_faultAt, .int m_seen, .int m_mirrors, .ref y_cost, .ref y_away, .ref y_fee, .ref y_goesTo, .ref y_priceWas, .ref y_isKept, .ref y_kept, .ref y_trace, .int m_traced])), (y_city, .inl (cI, 192, .inl cy))] := hD
      refine lv_if_ne (tgt := 26) S.1 S.2.1 dX9_ask_20 (by decide) (fun c_36 => absurd c_36 (by decide)) (fun c_36 => ?_)
      refine lv_ldc (v := (-1000001)) S.1 S.2.1 S.2.2.2.1 (S.2.2.2.2 (.constant RX9 73 (-1000001)) (by decide +kernel)) dX9_ask_23 ?_
      have hP := hP.sub (ws' := [(y, .inr (9, [.int 0, .int m_status, .ref y_lane, .ref y_many, .ref y_item, .ref y_city, .ref y_fresh, .int m_isThere, .ref y_tape, .int m_taped, .int m_latest, .int m_length, .int m_cursor, .int m_token, .int m_start, .int m_till, .int m_fault, .int m_faultAt, .int m_seen, .int m_mirrors, .ref y_cost, .ref y_away, .ref y_fee, .ref y_goesTo, .ref y_priceWas, .ref y_isKept, .ref y_kept, .ref y_trace, .int m_traced])), (y_trace, .inl (cI, 16, .inl tr)), (y_city, .inl (cI, 192, .inl cy))]) [1, 0, 2] rfl
      have hD := hD.sub (ws' := [(y, .inr (9, [.int 0, .int m_status, .ref y_lane, .ref y_many, .ref y_item, .ref y_city, .ref y_fresh, .int m_isThere, .ref y_tape, .int m_taped, .int m_latest, .int m_length, .int m_cursor, .int m_token, .int m_start, .int m_till, .int m_fault, .int m_faultAt, .int m_seen, .int m_mirrors, .ref y_cost, .ref y_away, .ref y_fee, .ref y_goesTo, .ref y_priceWas, .ref y_isKept, .ref y_kept, .ref y_trace, .int m_traced])), (y_trace, .inl (cI, 16, .inl tr)), (y_city, .inl (cI, 192, .inl cy))]) [1, 0, 2] (by decide) rfl
      have lqm1000001 : Int32.toInt (-1000001) = -1000001 := by decide
      exact b_iret S.1 S.2.1 X.2.1 X.2.2.1 hP hD hS ⟨m_traced, tr, (by first | assumption | omega | decide | (rw [show Int32.toInt 0 = 0 from rfl]; omega)), rfl⟩ dX9_ask_25
  · have hP : va_P D vwCl [(y_trace, .inl (cI, 16, .inl tr)), (y, .inr (9, [.int 0, .int m_status, .ref y_lane, .ref y_many, .ref y_item, .ref y_city, .ref y_fresh, .int m_isThere, .ref y_tape, .int m_taped, .int m_latest, .int m_length, .int m_cursor, .int m_token, .int m_start, .int m_till, .int m_fault, .int m_faultAt, .int m_seen, .int m_mirrors, .ref y_cost, .ref y_away, .ref y_fee, .ref y_goesTo, .ref y_priceWas, .ref y_isKept, .ref y_kept, .ref y_trace, .int m_traced])), (y_city, .inl (cI, 192, .inl cy))] H := hP
    have hD : va_D A [(y_trace, .inl (cI, 16, .inl tr)), (y, .inr (9, [.int 0, .int m_status, .ref y_lane, .ref y_many, .ref y_item, .ref y_city, .ref y_fresh, .int m_isThere, .ref y_tape, .int m_taped, .int m_latest, .int m_length, .int m_cursor, .int m_token, .int m_start, .int m_till, .int m_fault, .int m_faultAt, .int m_seen, .int m_mirrors, .ref y_cost, .ref y_away, .ref y_fee, .ref y_goesTo, .ref y_priceWas, .ref y_isKept, .ref y_kept, .ref y_trace, .int m_traced])), (y_city, .inl (cI, 192, .inl cy))] := hD
    refine lv_if_eq (tgt := 23) S.1 S.2.1 dX9_ask_10 (by decide) (fun c_37 => ?_) (fun c_37 => absurd c_37 (by decide))
    refine lv_ldc (v := (-1000001)) S.1 S.2.1 S.2.2.2.1 (S.2.2.2.2 (.constant RX9 73 (-1000001)) (by decide +kernel)) dX9_ask_23 ?_
    have hP := hP.sub (ws' := [(y, .inr (9, [.int 0, .int m_status, .ref y_lane, .ref y_many, .ref y_item, .ref y_city, .ref y_fresh, .int m_isThere, .ref y_tape, .int m_taped, .int m_latest, .int m_length, .int m_cursor, .int m_token, .int m_start, .int m_till, .int m_fault, .int m_faultAt, .int m_seen, .int m_mirrors, .ref y_cost, .ref y_away, .ref y_fee, .ref y_goesTo, .ref y_priceWas, .ref y_isKept, .ref y_kept, .ref y_trace, .int m_traced])), (y_trace, .inl (cI, 16, .inl tr)), (y_city, .inl (cI, 192, .inl cy))]) [1, 0, 2] rfl
    have hD := hD.sub (ws' := [(y, .inr (9, [.int 0, .int m_status, .ref y_lane, .ref y_many, .ref y_item, .ref y_city, .ref y_fresh, .int m_isThere, .ref y_tape, .int m_taped, .int m_latest, .int m_length, .int m_cursor, .int m_token, .int m_start, .int m_till, .int m_fault, .int m_faultAt, .int m_seen, .int m_mirrors, .ref y_cost, .ref y_away, .ref y_fee, .ref y_goesTo, .ref y_priceWas, .ref y_isKept, .ref y_kept, .ref y_trace, .int m_traced])), (y_trace, .inl (cI, 16, .inl tr)), (y_city, .inl (cI, 192, .inl cy))]) [1, 0, 2] (by decide) rfl
    have lqm1000001 : Int32.toInt (-1000001) = -1000001 := by decide
    exact b_iret S.1 S.2.1 X.2.1 X.2.2.1 hP hD hS ⟨m_traced, tr, (by first | assumption | omega | decide | (rw [show Int32.toInt 0 = 0 from rfl]; omega)), rfl⟩ dX9_ask_25
set_option maxHeartbeats 4000000 in
set_option maxRecDepth 100000 in
theorem s_X9_trace (l : Launch) (D : va_G) (cI cZ cC cS : ClassId) (sq : Nat → Nat) (sz : Nat) (y : Nat) (y_trace : Nat) (i : Int32) (m_thrown : Int32) (m_status : Int32) (y_lane : Nat) (y_many : Nat) (y_item : Nat) (y_city : Nat) (y_fresh : Nat) (m_isThere : Int32) (y_tape : Nat) (m_taped : Int32) (m_latest : Int32) (m_length : Int32) (m_cursor : Int32) (m_token : Int32) (m_start : Int32) (m_till : Int32) (m_fault : Int32) (m_faultAt : Int32) (m_seen : Int32) (m_mirrors : Int32) (y_cost : Nat) (y_away : Nat) (y_fee : Nat) (y_goesTo : Nat) (y_priceWas : Nat) (y_isKept : Nat) (y_kept : Nat) (m_traced : Int32) (tr : Nat → Int32) (htd : 0 ≤ m_traced.toInt ∧ m_traced.toInt ≤ 16) : mI l yX9_trace wsX9_trace 50 2000 D (tyW cI cZ cC cS) sq [(y, .inr (9, [.int m_thrown, .int m_status, .ref y_lane, .ref y_many, .ref y_item, .ref y_city, .ref y_fresh, .int m_isThere, .ref y_tape, .int m_taped, .int m_latest, .int m_length, .int m_cursor, .int m_token, .int m_start, .int m_till, .int m_fault, .int m_faultAt, .int m_seen, .int m_mirrors, .ref y_cost, .ref y_away, .ref y_fee, .ref y_goesTo, .ref y_priceWas, .ref y_isKept, .ref y_kept, .ref y_trace, .int m_traced])), (y_trace, .inl (cI, 16, .inl tr))] sz [.ref y, .int i] (fun r w => (w = [(y, .inr (9, [.int 0, .int m_status, .ref y_lane, .ref y_many, .ref y_item, .ref y_city, .ref y_fresh, .int m_isThere, .ref y_tape, .int m_taped, .int m_latest, .int m_length, .int m_cursor, .int m_token, .int m_start, .int m_till, .int m_fault, .int m_faultAt, .int m_seen, .int m_mirrors, .ref y_cost, .ref y_away, .ref y_fee, .ref y_goesTo, .ref y_priceWas, .ref y_isKept, .ref y_kept, .ref y_trace, .int m_traced])), (y_trace, .inl (cI, 16, .inl tr))])) := by
  refine b_metI (cc := cX9_trace) (maxL := 2) (ret := (some .int)) (by decide) rfl (Nat.le_of_ble_eq_true rfl) ?_
  intro p e s m below meth c ls A H X hsz hP hK hT hD hA hS hl
  have S : CallFix p m c cX9_trace 2 s ([.ref y, .int i] : List Value).toArray wsX9_trace RX9 := X.1
  have hl : lv_has ls 2 [(0, .ref y), (1, .int i)] := hl
  have iX9 := jX9_trace_X9
  refine lv_aload_n S.1 S.2.1 dX9_trace_0 rfl (lv_at hl 0 rfl) ?_
  refine lv_iconst (v := (0)) S.1 S.2.1 dX9_trace_1 (by decide) ?_
  refine b_put (v := .int 0) S iX9 tyX9 tyX9_ok nmX9 hK hP hD hS 0 rfl rfl 0 (by decide) (by decide +kernel) rfl rfl rfl (Nat.le_of_ble_eq_true rfl) dX9_trace_2 (fun H locs hP hD hS => ?_)
  have hP : va_P D vwCl [(y, .inr (9, [.int 0, .int m_status, .ref y_lane, .ref y_many, .ref y_item, .ref y_city, .ref y_fresh, .int m_isThere, .ref y_tape, .int m_taped, .int m_latest, .int m_length, .int m_cursor, .int m_token, .int m_start, .int m_till, .int m_fault, .int m_faultAt, .int m_seen, .int m_mirrors, .ref y_cost, .ref y_away, .ref y_fee, .ref y_goesTo, .ref y_priceWas, .ref y_isKept, .ref y_kept, .ref y_trace, .int m_traced])), (y_trace, .inl (cI, 16, .inl tr))] H := hP
  have hD : va_D A [(y, .inr (9, [.int 0, .int m_status, .ref y_lane, .ref y_many, .ref y_item, .ref y_city, .ref y_fresh, .int m_isThere, .ref y_tape, .int m_taped, .int m_latest, .int m_length, .int m_cursor, .int m_token, .int m_start, .int m_till, .int m_fault, .int m_faultAt, .int m_seen, .int m_mirrors, .ref y_cost, .ref y_away, .ref y_fee, .ref y_goesTo, .ref y_priceWas, .ref y_isKept, .ref y_kept, .ref y_trace, .int m_traced])), (y_trace, .inl (cI, 16, .inl tr))] := hD
  refine lv_iload_n S.1 S.2.1 dX9_trace_5 rfl (lv_at hl 1 rfl) ?_
  refine lv_i2l (v := i.toInt64) S.1 S.2.1 dX9_trace_6 rfl ?_
  refine lv_lconst (v := 0) S.1 S.2.1 dX9_trace_7 (by decide) ?_
  refine lv_aload_n S.1 S.2.1 dX9_trace_8 rfl (lv_at hl 0 rfl) ?_
  refine b_get (v := .int m_traced) S iX9 hK hP 0 rfl rfl 28 (by decide) (by decide +kernel) rfl dX9_trace_9 ?_
  refine lv_iconst (v := (1)) S.1 S.2.1 dX9_trace_12 (by decide) ?_
  refine lv_isub S.1 S.2.1 dX9_trace_13 ?_
  refine lv_topi (fun x_1 ex_1 => ?_)
  have tx_1 : x_1.toInt = m_traced.toInt - (1) := subI (A := m_traced.toInt) (B := 1) ex_1 rfl rfl (by omega) (by omega)
  refine lv_i2l (v := x_1.toInt64) S.1 S.2.1 dX9_trace_14 rfl ?_
  refine b_ai (wr := [(y, .inr (9, [.int 0, .int m_status, .ref y_lane, .ref y_many, .ref y_item, .ref y_city, .ref y_fresh, .int m_isThere, .ref y_tape, .int m_taped, .int m_latest, .int m_length, .int m_cursor, .int m_token, .int m_start, .int m_till, .int m_fault, .int m_faultAt, .int m_seen, .int m_mirrors, .ref y_cost, .ref y_away, .ref y_fee, .ref y_goesTo, .ref y_priceWas, .ref y_isKept, .ref y_kept, .ref y_trace, .int m_traced])), (y_trace, .inl (cI, 16, .inl tr))]) (b_runS (As := [.long (i.toInt64), .long 0, .long (x_1.toInt64)]) (s_X9_in l D cI cZ cC cS sq H.size (i.toInt64) (0) (x_1.toInt64)) S gX9_trace_X9_in rfl hdS_X9_in ⟨Nat.le_of_ble_eq_true rfl, Nat.le_of_ble_eq_true rfl⟩ ⟨Nat.le_of_ble_eq_true rfl, Nat.le_of_ble_eq_true rfl⟩ hK hT hS hA hP hD [] rfl (by decide) rfl hl.1 rfl (Nat.le_of_ble_eq_true rfl) dX9_trace_15) hP hD hS hA [] [0, 1] rfl rfl (by decide) (by decide) (fun r_2 w_3 H locs hw_4 hP hD hS => ?_)
  rcases hw_4 with ⟨hf_5, rfl, rfl⟩ | ⟨hf_6, rfl, rfl⟩
  · have hf_5 : (0) ≤ i.toInt ∧ i.toInt ≤ x_1.toInt := by simp only [Int32.toInt_toInt64] at hf_5; exact hf_5
    have hP : va_P D vwCl [(y, .inr (9, [.int 0, .int m_status, .ref y_lane, .ref y_many, .ref y_item, .ref y_city, .ref y_fresh, .int m_isThere, .ref y_tape, .int m_taped, .int m_latest, .int m_length, .int m_cursor, .int m_token, .int m_start, .int m_till, .int m_fault, .int m_faultAt, .int m_seen, .int m_mirrors, .ref y_cost, .ref y_away, .ref y_fee, .ref y_goesTo, .ref y_priceWas, .ref y_isKept, .ref y_kept, .ref y_trace, .int m_traced])), (y_trace, .inl (cI, 16, .inl tr))] H := hP
    have hD : va_D A [(y, .inr (9, [.int 0, .int m_status, .ref y_lane, .ref y_many, .ref y_item, .ref y_city, .ref y_fresh, .int m_isThere, .ref y_tape, .int m_taped, .int m_latest, .int m_length, .int m_cursor, .int m_token, .int m_start, .int m_till, .int m_fault, .int m_faultAt, .int m_seen, .int m_mirrors, .ref y_cost, .ref y_away, .ref y_fee, .ref y_goesTo, .ref y_priceWas, .ref y_isKept, .ref y_kept, .ref y_trace, .int m_traced])), (y_trace, .inl (cI, 16, .inl tr))] := hD
    refine lv_if_eq (tgt := 30) S.1 S.2.1 dX9_trace_18 (by decide) (fun c_7 => absurd c_7 (by decide)) (fun c_7 => ?_)
    refine lv_aload_n S.1 S.2.1 dX9_trace_21 rfl (lv_at hl 0 rfl) ?_
    refine b_get (v := .ref y_trace) S iX9 hK hP 0 rfl rfl 27 (by decide) (by decide +kernel) rfl dX9_trace_22 ?_
    refine lv_iload_n S.1 S.2.1 dX9_trace_25 rfl (lv_at hl 1 rfl) ?_
    have hin_8 : vp_in i 16 := (in_of (n := 16) (by omega) (by omega))
    refine va_iald S.1 S.2.1 hK.1 hP 1 0 rfl rfl hin_8 dX9_trace_26 ?_
    refine lv_topi (fun x_9 ex_9 => ?_)
    refine lv_goto (tgt := 32) S.1 S.2.1 dX9_trace_27 (by decide) ?_
    exact b_iret S.1 S.2.1 X.2.1 X.2.2.1 hP hD hS rfl dX9_trace_32
  · have hf_6 : i.toInt < (0) ∨ x_1.toInt < i.toInt := by simp only [Int32.toInt_toInt64] at hf_6; exact hf_6
    have hP : va_P D vwCl [(y, .inr (9, [.int 0, .int m_status, .ref y_lane, .ref y_many, .ref y_item, .ref y_city, .ref y_fresh, .int m_isThere, .ref y_tape, .int m_taped, .int m_latest, .int m_length, .int m_cursor, .int m_token, .int m_start, .int m_till, .int m_fault, .int m_faultAt, .int m_seen, .int m_mirrors, .ref y_cost, .ref y_away, .ref y_fee, .ref y_goesTo, .ref y_priceWas, .ref y_isKept, .ref y_kept, .ref y_trace, .int m_traced])), (y_trace, .inl (cI, 16, .inl tr))] H := hP
    have hD : va_D A [(y, .inr (9, [.int 0, .int m_status, .ref y_lane, .ref y_many, .ref y_item, .ref y_city, .ref y_fresh, .int m_isThere, .ref y_tape, .int m_taped, .int m_latest, .int m_length, .int m_cursor, .int m_token, .int m_start, .int m_till, .int m_fault, .int m_faultAt, .int m_seen, .int m_mirrors, .ref y_cost, .ref y_away, .ref y_fee, .ref y_goesTo, .ref y_priceWas, .ref y_isKept, .ref y_kept, .ref y_trace, .int m_traced])), (y_trace, .inl (cI, 16, .inl tr))] := hD
    refine lv_if_eq (tgt := 30) S.1 S.2.1 dX9_trace_18 (by decide) (fun c_10 => ?_) (fun c_10 => absurd c_10 (by decide))
    refine lv_ldc (v := (-1000000)) S.1 S.2.1 S.2.2.2.1 (S.2.2.2.2 (.constant RX9 89 (-1000000)) (by decide +kernel)) dX9_trace_30 ?_
    have lqm1000000 : Int32.toInt (-1000000) = -1000000 := by decide
    exact b_iret S.1 S.2.1 X.2.1 X.2.2.1 hP hD hS rfl dX9_trace_32
set_option maxHeartbeats 4000000 in
set_option maxRecDepth 100000 in
theorem lp_mhow {p : Program} (l : Launch) {e : Env} {s : State} {m : MethodId} {below : List Frame} {meth : Method} {c : Code} (D : va_G) (cI cZ cC cS : ClassId) (sq : Nat → Nat) (y : Nat) (y_city : Nat) (om : Int32) (m_thrown : Int32) (m_status : Int32) (y_lane : Nat) (y_many : Nat) (y_item : Nat) (y_fresh : Nat) (m_isThere : Int32) (y_tape : Nat) (m_taped : Int32) (m_latest : Int32) (m_length : Int32) (m_cursor : Int32) (m_token : Int32) (m_start : Int32) (m_till : Int32) (m_fault : Int32) (m_faultAt : Int32) (m_seen : Int32) (m_mirrors : Int32) (y_cost : Nat) (y_away : Nat) (y_fee : Nat) (y_goesTo : Nat) (y_priceWas : Nat) (y_isKept : Nat) (y_kept : Nat) (y_trace : Nat) (m_traced : Int32) (cy : Nat → Int32) (hpd_cy : prd cyK 192 cy) {A : Nat → Prop} (X : bX p s m meth c cX9_howMany 5 wsX9_howMany yX9_howMany (some .int) [.ref y, .int om]) (hK : kW D (tyW cI cZ cC cS) sq s) (hT : sT sq A s s.heap) (hA : ∀ q, s.heap.size ≤ q → A q) (K : ∀ (i : Int32) (q : Int32), (prd cyK 192 cy) → (0 ≤ i.toInt ∧ i.toInt ≤ 80) → ∀ (H : Heap) (locs : List Loc) (ls : Array Slot), va_P D vwCl [(y, .inr (9, [.int m_thrown, .int m_status, .ref y_lane, .ref y_many, .ref y_item, .ref y_city, .ref y_fresh, .int m_isThere, .ref y_tape, .int m_taped, .int m_latest, .int m_length, .int m_cursor, .int m_token, .int m_start, .int m_till, .int m_fault, .int m_faultAt, .int m_seen, .int m_mirrors, .ref y_cost, .ref y_away, .ref y_fee, .ref y_goesTo, .ref y_priceWas, .ref y_isKept, .ref y_kept, .ref y_trace, .int m_traced])), (y_city, .inl (cI, 192, .inl cy))] H → va_D A [(y, .inr (9, [.int m_thrown, .int m_status, .ref y_lane, .ref y_many, .ref y_item, .ref y_city, .ref y_fresh, .int m_isThere, .ref y_tape, .int m_taped, .int m_latest, .int m_length, .int m_cursor, .int m_token, .int m_start, .int m_till, .int m_fault, .int m_faultAt, .int m_seen, .int m_mirrors, .ref y_cost, .ref y_away, .ref y_fee, .ref y_goesTo, .ref y_priceWas, .ref y_isKept, .ref y_kept, .ref y_trace, .int m_traced])), (y_city, .inl (cI, 192, .inl cy))] → va_S A s.heap H locs → lv_has ls 5 [(3, .int i), (2, .int q), (0, .ref y), (1, .int om)] → W p l e (rmW 3 120 0 0) s m ([.ref y, .int om] : List Value).toArray below meth c H locs 0 0 (MQ below (va_Qi (fun r w => (w = [(y, .inr (9, [.int m_thrown, .int m_status, .ref y_lane, .ref y_many, .ref y_item, .ref y_city, .ref y_fresh, .int m_isThere, .ref y_tape, .int m_taped, .int m_latest, .int m_length, .int m_cursor, .int m_token, .int m_start, .int m_till, .int m_fault, .int m_faultAt, .int m_seen, .int m_mirrors, .ref y_cost, .ref y_away, .ref y_fee, .ref y_goesTo, .ref y_priceWas, .ref y_isKept, .ref y_kept, .ref y_trace, .int m_traced])), (y_city, .inl (cI, 192, .inl cy))])) (wD D A) A) ([.ref y, .int om] : List Value).toArray s 0 0 A) (F0 m 60 ls [])) : ∀ (mN : Nat) (i : Int32) (q : Int32), (prd cyK 192 cy) → (0 ≤ i.toInt ∧ i.toInt ≤ 80) → ((80 - i.toInt).toNat < mN) → ∀ (H : Heap) (locs : List Loc) (ls : Array Slot), va_P D vwCl [(y, .inr (9, [.int m_thrown, .int m_status, .ref y_lane, .ref y_many, .ref y_item, .ref y_city, .ref y_fresh, .int m_isThere, .ref y_tape, .int m_taped, .int m_latest, .int m_length, .int m_cursor, .int m_token, .int m_start, .int m_till, .int m_fault, .int m_faultAt, .int m_seen, .int m_mirrors, .ref y_cost, .ref y_away, .ref y_fee, .ref y_goesTo, .ref y_priceWas, .ref y_isKept, .ref y_kept, .ref y_trace, .int m_traced])), (y_city, .inl (cI, 192, .inl cy))] H → va_D A [(y, .inr (9, [.int m_thrown, .int m_status, .ref y_lane, .ref y_many, .ref y_item, .ref y_city, .ref y_fresh, .int m_isThere, .ref y_tape, .int m_taped, .int m_latest, .int m_length, .int m_cursor, .int m_token, .int m_start, .int m_till, .int m_fault, .int m_faultAt, .int m_seen, .int m_mirrors, .ref y_cost, .ref y_away, .ref y_fee, .ref y_goesTo, .ref y_priceWas, .ref y_isKept, .ref y_kept, .ref y_trace, .int m_traced])), (y_city, .inl (cI, 192, .inl cy))] → va_S A s.heap H locs → lv_has ls 5 [(3, .int i), (2, .int q), (0, .ref y), (1, .int om)] → W p l e (rmW 3 120 0 0) s m ([.ref y, .int om] : List Value).toArray below meth c H locs 0 0 (MQ below (va_Qi (fun r w => (w = [(y, .inr (9, [.int m_thrown, .int m_status, .ref y_lane, .ref y_many, .ref y_item, .ref y_city, .ref y_fresh, .int m_isThere, .ref y_tape, .int m_taped, .int m_latest, .int m_length, .int m_cursor, .int m_token, .int m_start, .int m_till, .int m_fault, .int m_faultAt, .int m_seen, .int m_mirrors, .ref y_cost, .ref y_away, .ref y_fee, .ref y_goesTo, .ref y_priceWas, .ref y_isKept, .ref y_kept, .ref y_trace, .int m_traced])), (y_city, .inl (cI, 192, .inl cy))])) (wD D A) A) ([.ref y, .int om] : List Value).toArray s 0 0 A) (F0 m 4 ls []) := by
  have S : CallFix p m c cX9_howMany 5 s ([.ref y, .int om] : List Value).toArray wsX9_howMany RX9 := X.1
  have iX9 := jX9_howMany_X9
  intro mN
  induction mN with
  | zero => intro i q hpd_cy hi hm; exact absurd hm (Nat.not_lt_zero _)
  | succ mN ih =>
    intro i q hpd_cy hi hm H locs ls hP hD hS hl
    refine lv_iload_n S.1 S.2.1 dX9_howMany_4 rfl (lv_at hl 0 rfl) ?_
    refine lv_bipush (v := (80)) S.1 S.2.1 dX9_howMany_5 (by decide) ?_
    refine lv_icmp_ge (tgt := 60) S.1 S.2.1 dX9_howMany_7 (by decide) (fun c_101 => ?_) (fun c_101 => ?_)
    · rw [le2 (a := 80) (b := i) (A := 80) (B := i.toInt) rfl rfl] at c_101
      exact K i q (by first | assumption | omega | decide | (rw [show Int32.toInt 0 = 0 from rfl]; omega)) (by first | assumption | omega | decide | (rw [show Int32.toInt 0 = 0 from rfl]; omega)) H _ ls hP hD hS (lv_sub hl [0, 1, 2, 3] rfl)
    · rw [le2 (a := 80) (b := i) (A := 80) (B := i.toInt) rfl rfl] at c_101
      refine lv_aload_n S.1 S.2.1 dX9_howMany_10 rfl (lv_at hl 2 rfl) ?_
      refine b_get (v := .ref y_city) S iX9 hK hP 0 rfl rfl 5 (by decide) (by decide +kernel) rfl dX9_howMany_11 ?_
      refine lv_iconst (v := (4)) S.1 S.2.1 dX9_howMany_14 (by decide) ?_
      refine lv_iload_n S.1 S.2.1 dX9_howMany_15 rfl (lv_at hl 0 rfl) ?_
      refine lv_iadd S.1 S.2.1 dX9_howMany_16 ?_
      refine lv_topi (fun x_102 ex_102 => ?_)
      have tx_102 : x_102.toInt = 4 + (i.toInt) := addI (A := 4) (B := i.toInt) ex_102 rfl rfl (by omega) (by omega)
      have hin_103 : vp_in x_102 192 := (in_of (n := 192) (by omega) (by omega))
      refine va_iald S.1 S.2.1 hK.1 hP 1 0 rfl rfl hin_103 dX9_howMany_17 ?_
      refine lv_topi (fun x_104 ex_104 => ?_)
      have tx_104 := cyg_A (x := x_104) (show prd cyK 192 cy by assumption) (by omega) ex_104
      refine lv_istore (lv' := [(4, .int x_104), (3, .int i), (2, .int q), (0, .ref y), (1, .int om)]) S.1 S.2.1 dX9_howMany_18 hl (by decide) rfl (fun ls hl => ?_)
      refine lv_iload_n S.1 S.2.1 dX9_howMany_20 rfl (lv_at hl 2 rfl) ?_
      refine lv_aload_n S.1 S.2.1 dX9_howMany_21 rfl (lv_at hl 3 rfl) ?_
      refine lv_iload_n S.1 S.2.1 dX9_howMany_22 rfl (lv_at hl 1 rfl) ?_
      refine b_ai (wr := []) (b_runV (q0 := 0) (ci := 9) (As := [.int i]) (s_X9_isCell l D cI cZ cC cS sq H.size y y_city i m_thrown m_status y_lane y_many y_item y_fresh m_isThere y_tape m_taped m_latest m_length m_cursor m_token m_start m_till m_fault m_faultAt m_seen m_mirrors y_cost y_away y_fee y_goesTo y_priceWas y_isKept y_kept y_trace m_traced cy (by first | assumption | omega | decide | (rw [show Int32.toInt 0 = 0 from rfl]; omega))) S gX9_howMany_X9_isCell rfl hdV_X9_isCell ⟨Nat.le_of_ble_eq_true rfl, Nat.le_of_ble_eq_true rfl⟩ ⟨Nat.le_of_ble_eq_true rfl, Nat.le_of_ble_eq_true rfl⟩ hK hT hS hA hP hD rfl rfl [0, 1] rfl (by decide) rfl hl.1 rfl (Nat.le_of_ble_eq_true rfl) dX9_howMany_23) hP hD hS hA [0, 1] [] rfl rfl (by decide) (by decide) (fun r_105 w_106 H locs hw_107 hP hD hS => ?_)
      rcases hw_107 with ⟨hf_108, rfl, rfl⟩ | ⟨hf_109, rfl, rfl⟩
      · have hP : va_P D vwCl [(y, .inr (9, [.int m_thrown, .int m_status, .ref y_lane, .ref y_many, .ref y_item, .ref y_city, .ref y_fresh, .int m_isThere, .ref y_tape, .int m_taped, .int m_latest, .int m_length, .int m_cursor, .int m_token, .int m_start, .int m_till, .int m_fault, .int m_faultAt, .int m_seen, .int m_mirrors, .ref y_cost, .ref y_away, .ref y_fee, .ref y_goesTo, .ref y_priceWas, .ref y_isKept, .ref y_kept, .ref y_trace, .int m_traced])), (y_city, .inl (cI, 192, .inl cy))] H := hP
        have hD : va_D A [(y, .inr (9, [.int m_thrown, .int m_status, .ref y_lane, .ref y_many, .ref y_item, .ref y_city, .ref y_fresh, .int m_isThere, .ref y_tape, .int m_taped, .int m_latest, .int m_length, .int m_cursor, .int m_token, .int m_start, .int m_till, .int m_fault, .int m_faultAt, .int m_seen, .int m_mirrors, .ref y_cost, .ref y_away, .ref y_fee, .ref y_goesTo, .ref y_priceWas, .ref y_isKept, .ref y_kept, .ref y_trace, .int m_traced])), (y_city, .inl (cI, 192, .inl cy))] := hD
        refine lv_if_eq (tgt := 51) S.1 S.2.1 dX9_howMany_26 (by decide) (fun c_110 => absurd c_110 (by decide)) (fun c_110 => ?_)
        refine lv_iload_n S.1 S.2.1 dX9_howMany_29 rfl (lv_at hl 4 rfl) ?_
        refine lv_if_eq (tgt := 42) S.1 S.2.1 dX9_howMany_30 (by decide) (fun c_111 => ?_) (fun c_111 => ?_)
        · rw [eq2 (a := om) (b := 0) (A := om.toInt) (B := 0) rfl rfl] at c_111
          refine lv_iload S.1 S.2.1 dX9_howMany_42 (lv_at hl 0 rfl) ?_
          refine lv_if_lt (tgt := 51) S.1 S.2.1 dX9_howMany_44 (by decide) (fun c_112 => ?_) (fun c_112 => ?_)
          · rw [lt2 (a := x_104) (b := 0) (A := x_104.toInt) (B := 0) rfl rfl] at c_112
            refine lv_iconst (v := (0)) S.1 S.2.1 dX9_howMany_51 (by decide) ?_
            refine lv_iadd S.1 S.2.1 dX9_howMany_52 ?_
            refine lv_topi (fun x_113 ex_113 => ?_)
            refine lv_istore_n (lv' := [(2, .int x_113), (4, .int x_104), (3, .int i), (0, .ref y), (1, .int om)]) S.1 S.2.1 dX9_howMany_53 rfl hl (by decide) rfl (fun ls hl => ?_)
            obtain ⟨x_114, ex_114⟩ : ∃ y : Int32, y = i + Int32.ofInt (1) := ⟨_, rfl⟩
            refine lv_iinc (v := x_114) (lv' := [(3, .int x_114), (2, .int x_113), (4, .int x_104), (0, .ref y), (1, .int om)]) S.1 S.2.1 dX9_howMany_54 hl (k := 2) rfl ex_114.symm (by decide) rfl (fun ls hl => ?_)
            have tx_114 : x_114.toInt = i.toInt + (1) := addI (A := i.toInt) (B := 1) ex_114 rfl rfl (by omega) (by omega)
            refine lv_goto (tgt := 4) S.1 S.2.1 dX9_howMany_57 (by decide) ?_
            exact ih x_114 x_113 (by first | assumption | omega | decide | (rw [show Int32.toInt 0 = 0 from rfl]; omega)) (by first | assumption | omega | decide | (rw [show Int32.toInt 0 = 0 from rfl]; omega)) (by omega) H _ ls hP hD hS (lv_sub hl [0, 1, 3, 4] rfl)
          · rw [lt2 (a := x_104) (b := 0) (A := x_104.toInt) (B := 0) rfl rfl] at c_112
            refine lv_iconst (v := (1)) S.1 S.2.1 dX9_howMany_47 (by decide) ?_
            refine lv_goto (tgt := 52) S.1 S.2.1 dX9_howMany_48 (by decide) ?_
            refine lv_iadd S.1 S.2.1 dX9_howMany_52 ?_
            refine lv_topi (fun x_115 ex_115 => ?_)
            refine lv_istore_n (lv' := [(2, .int x_115), (4, .int x_104), (3, .int i), (0, .ref y), (1, .int om)]) S.1 S.2.1 dX9_howMany_53 rfl hl (by decide) rfl (fun ls hl => ?_)
            obtain ⟨x_116, ex_116⟩ : ∃ y : Int32, y = i + Int32.ofInt (1) := ⟨_, rfl⟩
            refine lv_iinc (v := x_116) (lv' := [(3, .int x_116), (2, .int x_115), (4, .int x_104), (0, .ref y), (1, .int om)]) S.1 S.2.1 dX9_howMany_54 hl (k := 2) rfl ex_116.symm (by decide) rfl (fun ls hl => ?_)
            have tx_116 : x_116.toInt = i.toInt + (1) := addI (A := i.toInt) (B := 1) ex_116 rfl rfl (by omega) (by omega)
            refine lv_goto (tgt := 4) S.1 S.2.1 dX9_howMany_57 (by decide) ?_
            exact ih x_116 x_115 (by first | assumption | omega | decide | (rw [show Int32.toInt 0 = 0 from rfl]; omega)) (by first | assumption | omega | decide | (rw [show Int32.toInt 0 = 0 from rfl]; omega)) (by omega) H _ ls hP hD hS (lv_sub hl [0, 1, 3, 4] rfl)
        · rw [eq2 (a := om) (b := 0) (A := om.toInt) (B := 0) rfl rfl] at c_111
          refine lv_iload S.1 S.2.1 dX9_howMany_33 (lv_at hl 0 rfl) ?_
          refine lv_iconst (v := (-1)) S.1 S.2.1 dX9_howMany_35 (by decide) ?_
          refine lv_icmp_ne (tgt := 51) S.1 S.2.1 dX9_howMany_36 (by decide) (fun c_117 => ?_) (fun c_117 => ?_)
          · rw [eq2 (a := x_104) (b := (-1)) (A := x_104.toInt) (B := -1) rfl rfl] at c_117
            refine lv_iconst (v := (0)) S.1 S.2.1 dX9_howMany_51 (by decide) ?_
            refine lv_iadd S.1 S.2.1 dX9_howMany_52 ?_
            refine lv_topi (fun x_118 ex_118 => ?_)
            refine lv_istore_n (lv' := [(2, .int x_118), (4, .int x_104), (3, .int i), (0, .ref y), (1, .int om)]) S.1 S.2.1 dX9_howMany_53 rfl hl (by decide) rfl (fun ls hl => ?_)
            obtain ⟨x_119, ex_119⟩ : ∃ y : Int32, y = i + Int32.ofInt (1) := ⟨_, rfl⟩
            refine lv_iinc (v := x_119) (lv' := [(3, .int x_119), (2, .int x_118), (4, .int x_104), (0, .ref y), (1, .int om)]) S.1 S.2.1 dX9_howMany_54 hl (k := 2) rfl ex_119.symm (by decide) rfl (fun ls hl => ?_)
            have tx_119 : x_119.toInt = i.toInt + (1) := addI (A := i.toInt) (B := 1) ex_119 rfl rfl (by omega) (by omega)
            refine lv_goto (tgt := 4) S.1 S.2.1 dX9_howMany_57 (by decide) ?_
            exact ih x_119 x_118 (by first | assumption | omega | decide | (rw [show Int32.toInt 0 = 0 from rfl]; omega)) (by first | assumption | omega | decide | (rw [show Int32.toInt 0 = 0 from rfl]; omega)) (by omega) H _ ls hP hD hS (lv_sub hl [0, 1, 3, 4] rfl)
          · rw [eq2 (a := x_104) (b := (-1)) (A := x_104.toInt) (B := -1) rfl rfl] at c_117
            refine lv_goto (tgt := 47) S.1 S.2.1 dX9_howMany_39 (by decide) ?_
            refine lv_iconst (v := (1)) S.1 S.2.1 dX9_howMany_47 (by decide) ?_
            refine lv_goto (tgt := 52) S.1 S.2.1 dX9_howMany_48 (by decide) ?_
            refine lv_iadd S.1 S.2.1 dX9_howMany_52 ?_
            refine lv_topi (fun x_120 ex_120 => ?_)
            refine lv_istore_n (lv' := [(2, .int x_120), (4, .int x_104), (3, .int i), (0, .ref y), (1, .int om)]) S.1 S.2.1 dX9_howMany_53 rfl hl (by decide) rfl (fun ls hl => ?_)
            obtain ⟨x_121, ex_121⟩ : ∃ y : Int32, y = i + Int32.ofInt (1) := ⟨_, rfl⟩
            refine lv_iinc (v := x_121) (lv' := [(3, .int x_121), (2, .int x_120), (4, .int x_104), (0, .ref y), (1, .int om)]) S.1 S.2.1 dX9_howMany_54 hl (k := 2) rfl ex_121.symm (by decide) rfl (fun ls hl => ?_)
            have tx_121 : x_121.toInt = i.toInt + (1) := addI (A := i.toInt) (B := 1) ex_121 rfl rfl (by omega) (by omega)
            refine lv_goto (tgt := 4) S.1 S.2.1 dX9_howMany_57 (by decide) ?_
            exact ih x_121 x_120 (by first | assumption | omega | decide | (rw [show Int32.toInt 0 = 0 from rfl]; omega)) (by first | assumption | omega | decide | (rw [show Int32.toInt 0 = 0 from rfl]; omega)) (by omega) H _ ls hP hD hS (lv_sub hl [0, 1, 3, 4] rfl)
      · have hP : va_P D vwCl [(y, .inr (9, [.int m_thrown, .int m_status, .ref y_lane, .ref y_many, .ref y_item, .ref y_city, .ref y_fresh, .int m_isThere, .ref y_tape, .int m_taped, .int m_latest, .int m_length, .int m_cursor, .int m_token, .int m_start, .int m_till, .int m_fault, .int m_faultAt, .int m_seen, .int m_mirrors, .ref y_cost, .ref y_away, .ref y_fee, .ref y_goesTo, .ref y_priceWas, .ref y_isKept, .ref y_kept, .ref y_trace, .int m_traced])), (y_city, .inl (cI, 192, .inl cy))] H := hP
        have hD : va_D A [(y, .inr (9, [.int m_thrown, .int m_status, .ref y_lane, .ref y_many, .ref y_item, .ref y_city, .ref y_fresh, .int m_isThere, .ref y_tape, .int m_taped, .int m_latest, .int m_length, .int m_cursor, .int m_token, .int m_start, .int m_till, .int m_fault, .int m_faultAt, .int m_seen, .int m_mirrors, .ref y_cost, .ref y_away, .ref y_fee, .ref y_goesTo, .ref y_priceWas, .ref y_isKept, .ref y_kept, .ref y_trace, .int m_traced])), (y_city, .inl (cI, 192, .inl cy))] := hD
        refine lv_if_eq (tgt := 51) S.1 S.2.1 dX9_howMany_26 (by decide) (fun c_122 => ?_) (fun c_122 => absurd c_122 (by decide))
        refine lv_iconst (v := (0)) S.1 S.2.1 dX9_howMany_51 (by decide) ?_
        refine lv_iadd S.1 S.2.1 dX9_howMany_52 ?_
        refine lv_topi (fun x_123 ex_123 => ?_)
        refine lv_istore_n (lv' := [(2, .int x_123), (4, .int x_104), (3, .int i), (0, .ref y), (1, .int om)]) S.1 S.2.1 dX9_howMany_53 rfl hl (by decide) rfl (fun ls hl => ?_)
        obtain ⟨x_124, ex_124⟩ : ∃ y : Int32, y = i + Int32.ofInt (1) := ⟨_, rfl⟩
        refine lv_iinc (v := x_124) (lv' := [(3, .int x_124), (2, .int x_123), (4, .int x_104), (0, .ref y), (1, .int om)]) S.1 S.2.1 dX9_howMany_54 hl (k := 2) rfl ex_124.symm (by decide) rfl (fun ls hl => ?_)
        have tx_124 : x_124.toInt = i.toInt + (1) := addI (A := i.toInt) (B := 1) ex_124 rfl rfl (by omega) (by omega)
        refine lv_goto (tgt := 4) S.1 S.2.1 dX9_howMany_57 (by decide) ?_
        exact ih x_124 x_123 (by first | assumption | omega | decide | (rw [show Int32.toInt 0 = 0 from rfl]; omega)) (by first | assumption | omega | decide | (rw [show Int32.toInt 0 = 0 from rfl]; omega)) (by omega) H _ ls hP hD hS (lv_sub hl [0, 1, 3, 4] rfl)
set_option maxHeartbeats 4000000 in
set_option maxRecDepth 100000 in
theorem s_X9_howMany (l : Launch) (D : va_G) (cI cZ cC cS : ClassId) (sq : Nat → Nat) (sz : Nat) (y : Nat) (y_city : Nat) (om : Int32) (m_thrown : Int32) (m_status : Int32) (y_lane : Nat) (y_many : Nat) (y_item : Nat) (y_fresh : Nat) (m_isThere : Int32) (y_tape : Nat) (m_taped : Int32) (m_latest : Int32) (m_length : Int32) (m_cursor : Int32) (m_token : Int32) (m_start : Int32) (m_till : Int32) (m_fault : Int32) (m_faultAt : Int32) (m_seen : Int32) (m_mirrors : Int32) (y_cost : Nat) (y_away : Nat) (y_fee : Nat) (y_goesTo : Nat) (y_priceWas : Nat) (y_isKept : Nat) (y_kept : Nat) (y_trace : Nat) (m_traced : Int32) (cy : Nat → Int32) (hpd_cy : prd cyK 192 cy) : mI l yX9_howMany wsX9_howMany 3 120 D (tyW cI cZ cC cS) sq [(y, .inr (9, [.int m_thrown, .int m_status, .ref y_lane, .ref y_many, .ref y_item, .ref y_city, .ref y_fresh, .int m_isThere, .ref y_tape, .int m_taped, .int m_latest, .int m_length, .int m_cursor, .int m_token, .int m_start, .int m_till, .int m_fault, .int m_faultAt, .int m_seen, .int m_mirrors, .ref y_cost, .ref y_away, .ref y_fee, .ref y_goesTo, .ref y_priceWas, .ref y_isKept, .ref y_kept, .ref y_trace, .int m_traced])), (y_city, .inl (cI, 192, .inl cy))] sz [.ref y, .int om] (fun r w => (w = [(y, .inr (9, [.int m_thrown, .int m_status, .ref y_lane, .ref y_many, .ref y_item, .ref y_city, .ref y_fresh, .int m_isThere, .ref y_tape, .int m_taped, .int m_latest, .int m_length, .int m_cursor, .int m_token, .int m_start, .int m_till, .int m_fault, .int m_faultAt, .int m_seen, .int m_mirrors, .ref y_cost, .ref y_away, .ref y_fee, .ref y_goesTo, .ref y_priceWas, .ref y_isKept, .ref y_kept, .ref y_trace, .int m_traced])), (y_city, .inl (cI, 192, .inl cy))])) := by
  refine b_metI (cc := cX9_howMany) (maxL := 5) (ret := (some .int)) (by decide) rfl (Nat.le_of_ble_eq_true rfl) ?_
  intro p e s m below meth c ls A H X hsz hP hK hT hD hA hS hl
  have S : CallFix p m c cX9_howMany 5 s ([.ref y, .int om] : List Value).toArray wsX9_howMany RX9 := X.1
  have hl : lv_has ls 5 [(0, .ref y), (1, .int om)] := hl
  refine lv_iconst (v := (0)) S.1 S.2.1 dX9_howMany_0 (by decide) ?_
  refine lv_istore_n (lv' := [(2, .int 0), (0, .ref y), (1, .int om)]) S.1 S.2.1 dX9_howMany_1 rfl hl (by decide) rfl (fun ls hl => ?_)
  refine lv_iconst (v := (0)) S.1 S.2.1 dX9_howMany_2 (by decide) ?_
  refine lv_istore_n (lv' := [(3, .int 0), (2, .int 0), (0, .ref y), (1, .int om)]) S.1 S.2.1 dX9_howMany_3 rfl hl (by decide) rfl (fun ls hl => ?_)
  refine lp_mhow l D cI cZ cC cS sq y y_city om m_thrown m_status y_lane y_many y_item y_fresh m_isThere y_tape m_taped m_latest m_length m_cursor m_token m_start m_till m_fault m_faultAt m_seen m_mirrors y_cost y_away y_fee y_goesTo y_priceWas y_isKept y_kept y_trace m_traced cy hpd_cy X hK hT hA (fun i_1 q_2 hi_3 hi_4 H locs ls hP hD hS hl => ?_) _ (0) (0) (by first | assumption | omega | decide | (rw [show Int32.toInt 0 = 0 from rfl]; omega)) (by first | assumption | omega | decide | (rw [show Int32.toInt 0 = 0 from rfl]; omega)) (Nat.lt_succ_self _) H _ ls hP hD hS (lv_sub hl [0, 1, 2, 3] rfl)
  refine lv_iload_n S.1 S.2.1 dX9_howMany_60 rfl (lv_at hl 1 rfl) ?_
  exact b_iret S.1 S.2.1 X.2.1 X.2.2.1 hP hD hS rfl dX9_howMany_61
set_option maxHeartbeats 4000000 in
set_option maxRecDepth 100000 in
theorem lp_mcount {p : Program} (l : Launch) {e : Env} {s : State} {m : MethodId} {below : List Frame} {meth : Method} {c : Code} (D : va_G) (cI cZ cC cS : ClassId) (sq : Nat → Nat) (y : Nat) (y_lane : Nat) (y_city : Nat) (a : Int32) (m_thrown : Int32) (m_status : Int32) (y_many : Nat) (y_item : Nat) (y_fresh : Nat) (m_isThere : Int32) (y_tape : Nat) (m_taped : Int32) (m_latest : Int32) (m_length : Int32) (m_cursor : Int32) (m_token : Int32) (m_start : Int32) (m_till : Int32) (m_fault : Int32) (m_faultAt : Int32) (m_seen : Int32) (m_mirrors : Int32) (y_cost : Nat) (y_away : Nat) (y_fee : Nat) (y_goesTo : Nat) (y_priceWas : Nat) (y_isKept : Nat) (y_kept : Nat) (y_trace : Nat) (m_traced : Int32) (la_ : Nat → Int32) (cy : Nat → Int32) (hpd_cy : prd cyK 192 cy) {A : Nat → Prop} (X : bX p s m meth c cX9_count 4 wsX9_count yX9_count (some .int) [.ref y, .int a]) (hK : kW D (tyW cI cZ cC cS) sq s) (hT : sT sq A s s.heap) (hA : ∀ q, s.heap.size ≤ q → A q) (K : ∀ (i : Int32) (q : Int32), (prd cyK 192 cy) → (0 ≤ i.toInt ∧ i.toInt ≤ 8) → ∀ (H : Heap) (locs : List Loc) (ls : Array Slot), va_P D vwCl [(y, .inr (9, [.int 0, .int m_status, .ref y_lane, .ref y_many, .ref y_item, .ref y_city, .ref y_fresh, .int m_isThere, .ref y_tape, .int m_taped, .int m_latest, .int m_length, .int m_cursor, .int m_token, .int m_start, .int m_till, .int m_fault, .int m_faultAt, .int m_seen, .int m_mirrors, .ref y_cost, .ref y_away, .ref y_fee, .ref y_goesTo, .ref y_priceWas, .ref y_isKept, .ref y_kept, .ref y_trace, .int m_traced])), (y_lane, .inl (cI, 8, .inl la_)), (y_city, .inl (cI, 192, .inl cy))] H → va_D A [(y, .inr (9, [.int 0, .int m_status, .ref y_lane, .ref y_many, .ref y_item, .ref y_city, .ref y_fresh, .int m_isThere, .ref y_tape, .int m_taped, .int m_latest, .int m_length, .int m_cursor, .int m_token, .int m_start, .int m_till, .int m_fault, .int m_faultAt, .int m_seen, .int m_mirrors, .ref y_cost, .ref y_away, .ref y_fee, .ref y_goesTo, .ref y_priceWas, .ref y_isKept, .ref y_kept, .ref y_trace, .int m_traced])), (y_lane, .inl (cI, 8, .inl la_)), (y_city, .inl (cI, 192, .inl cy))] → va_S A s.heap H locs → lv_has ls 4 [(3, .int i), (2, .int q), (0, .ref y), (1, .int a)] → W p l e (rmW 50 2000 0 0) s m ([.ref y, .int a] : List Value).toArray below meth c H locs 0 0 (MQ below (va_Qi (fun r w => (w = [(y, .inr (9, [.int 0, .int m_status, .ref y_lane, .ref y_many, .ref y_item, .ref y_city, .ref y_fresh, .int m_isThere, .ref y_tape, .int m_taped, .int m_latest, .int m_length, .int m_cursor, .int m_token, .int m_start, .int m_till, .int m_fault, .int m_faultAt, .int m_seen, .int m_mirrors, .ref y_cost, .ref y_away, .ref y_fee, .ref y_goesTo, .ref y_priceWas, .ref y_isKept, .ref y_kept, .ref y_trace, .int m_traced])), (y_lane, .inl (cI, 8, .inl la_)), (y_city, .inl (cI, 192, .inl cy))])) (wD D A) A) ([.ref y, .int a] : List Value).toArray s 0 0 A) (F0 m 83 ls [])) : ∀ (mN : Nat) (i : Int32) (q : Int32), (prd cyK 192 cy) → (0 ≤ i.toInt ∧ i.toInt ≤ 8) → ((8 - i.toInt).toNat < mN) → ∀ (H : Heap) (locs : List Loc) (ls : Array Slot), va_P D vwCl [(y, .inr (9, [.int 0, .int m_status, .ref y_lane, .ref y_many, .ref y_item, .ref y_city, .ref y_fresh, .int m_isThere, .ref y_tape, .int m_taped, .int m_latest, .int m_length, .int m_cursor, .int m_token, .int m_start, .int m_till, .int m_fault, .int m_faultAt, .int m_seen, .int m_mirrors, .ref y_cost, .ref y_away, .ref y_fee, .ref y_goesTo, .ref y_priceWas, .ref y_isKept, .ref y_kept, .ref y_trace, .int m_traced])), (y_lane, .inl (cI, 8, .inl la_)), (y_city, .inl (cI, 192, .inl cy))] H → va_D A [(y, .inr (9, [.int 0, .int m_status, .ref y_lane, .ref y_many, .ref y_item, .ref y_city, .ref y_fresh, .int m_isThere, .ref y_tape, .int m_taped, .int m_latest, .int m_length, .int m_cursor, .int m_token, .int m_start, .int m_till, .int m_fault, .int m_faultAt, .int m_seen, .int m_mirrors, .ref y_cost, .ref y_away, .ref y_fee, .ref y_goesTo, .ref y_priceWas, .ref y_isKept, .ref y_kept, .ref y_trace, .int m_traced])), (y_lane, .inl (cI, 8, .inl la_)), (y_city, .inl (cI, 192, .inl cy))] → va_S A s.heap H locs → lv_has ls 4 [(3, .int i), (2, .int q), (0, .ref y), (1, .int a)] → W p l e (rmW 50 2000 0 0) s m ([.ref y, .int a] : List Value).toArray below meth c H locs 0 0 (MQ below (va_Qi (fun r w => (w = [(y, .inr (9, [.int 0, .int m_status, .ref y_lane, .ref y_many, .ref y_item, .ref y_city, .ref y_fresh, .int m_isThere, .ref y_tape, .int m_taped, .int m_latest, .int m_length, .int m_cursor, .int m_token, .int m_start, .int m_till, .int m_fault, .int m_faultAt, .int m_seen, .int m_mirrors, .ref y_cost, .ref y_away, .ref y_fee, .ref y_goesTo, .ref y_priceWas, .ref y_isKept, .ref y_kept, .ref y_trace, .int m_traced])), (y_lane, .inl (cI, 8, .inl la_)), (y_city, .inl (cI, 192, .inl cy))])) (wD D A) A) ([.ref y, .int a] : List Value).toArray s 0 0 A) (F0 m 54 ls []) := by
  have S : CallFix p m c cX9_count 4 s ([.ref y, .int a] : List Value).toArray wsX9_count RX9 := X.1
  have iX9 := jX9_count_X9
  intro mN
  induction mN with
  | zero => intro i q hpd_cy hi hm; exact absurd hm (Nat.not_lt_zero _)
  | succ mN ih =>
    intro i q hpd_cy hi hm H locs ls hP hD hS hl
    refine lv_iload_n S.1 S.2.1 dX9_count_54 rfl (lv_at hl 0 rfl) ?_
    refine lv_bipush (v := (8)) S.1 S.2.1 dX9_count_55 (by decide) ?_
    refine lv_icmp_ge (tgt := 83) S.1 S.2.1 dX9_count_57 (by decide) (fun c_101 => ?_) (fun c_101 => ?_)
    · rw [le2 (a := 8) (b := i) (A := 8) (B := i.toInt) rfl rfl] at c_101
      exact K i q (by first | assumption | omega | decide | (rw [show Int32.toInt 0 = 0 from rfl]; omega)) (by first | assumption | omega | decide | (rw [show Int32.toInt 0 = 0 from rfl]; omega)) H _ ls hP hD hS (lv_sub hl [0, 1, 2, 3] rfl)
    · rw [le2 (a := 8) (b := i) (A := 8) (B := i.toInt) rfl rfl] at c_101
      refine lv_iload_n S.1 S.2.1 dX9_count_60 rfl (lv_at hl 1 rfl) ?_
      refine lv_aload_n S.1 S.2.1 dX9_count_61 rfl (lv_at hl 2 rfl) ?_
      refine b_get (v := .ref y_lane) S iX9 hK hP 0 rfl rfl 2 (by decide) (by decide +kernel) rfl dX9_count_62 ?_
      refine lv_iload_n S.1 S.2.1 dX9_count_65 rfl (lv_at hl 0 rfl) ?_
      have hin_102 : vp_in i 8 := (in_of (n := 8) (by omega) (by omega))
      refine va_iald S.1 S.2.1 hK.1 hP 1 0 rfl rfl hin_102 dX9_count_66 ?_
      refine lv_topi (fun x_103 ex_103 => ?_)
      refine lv_if_lt (tgt := 74) S.1 S.2.1 dX9_count_67 (by decide) (fun c_104 => ?_) (fun c_104 => ?_)
      · rw [lt2 (a := x_103) (b := 0) (A := x_103.toInt) (B := 0) rfl rfl] at c_104
        refine lv_iconst (v := (0)) S.1 S.2.1 dX9_count_74 (by decide) ?_
        refine lv_iadd S.1 S.2.1 dX9_count_75 ?_
        refine lv_topi (fun x_105 ex_105 => ?_)
        refine lv_istore_n (lv' := [(2, .int x_105), (3, .int i), (0, .ref y), (1, .int a)]) S.1 S.2.1 dX9_count_76 rfl hl (by decide) rfl (fun ls hl => ?_)
        obtain ⟨x_106, ex_106⟩ : ∃ y : Int32, y = i + Int32.ofInt (1) := ⟨_, rfl⟩
        refine lv_iinc (v := x_106) (lv' := [(3, .int x_106), (2, .int x_105), (0, .ref y), (1, .int a)]) S.1 S.2.1 dX9_count_77 hl (k := 1) rfl ex_106.symm (by decide) rfl (fun ls hl => ?_)
        have tx_106 : x_106.toInt = i.toInt + (1) := addI (A := i.toInt) (B := 1) ex_106 rfl rfl (by omega) (by omega)
        refine lv_goto (tgt := 54) S.1 S.2.1 dX9_count_80 (by decide) ?_
        exact ih x_106 x_105 (by first | assumption | omega | decide | (rw [show Int32.toInt 0 = 0 from rfl]; omega)) (by first | assumption | omega | decide | (rw [show Int32.toInt 0 = 0 from rfl]; omega)) (by omega) H _ ls hP hD hS (lv_sub hl [0, 1, 2, 3] rfl)
      · rw [lt2 (a := x_103) (b := 0) (A := x_103.toInt) (B := 0) rfl rfl] at c_104
        refine lv_iconst (v := (1)) S.1 S.2.1 dX9_count_70 (by decide) ?_
        refine lv_goto (tgt := 75) S.1 S.2.1 dX9_count_71 (by decide) ?_
        refine lv_iadd S.1 S.2.1 dX9_count_75 ?_
        refine lv_topi (fun x_107 ex_107 => ?_)
        refine lv_istore_n (lv' := [(2, .int x_107), (3, .int i), (0, .ref y), (1, .int a)]) S.1 S.2.1 dX9_count_76 rfl hl (by decide) rfl (fun ls hl => ?_)
        obtain ⟨x_108, ex_108⟩ : ∃ y : Int32, y = i + Int32.ofInt (1) := ⟨_, rfl⟩
        refine lv_iinc (v := x_108) (lv' := [(3, .int x_108), (2, .int x_107), (0, .ref y), (1, .int a)]) S.1 S.2.1 dX9_count_77 hl (k := 1) rfl ex_108.symm (by decide) rfl (fun ls hl => ?_)
        have tx_108 : x_108.toInt = i.toInt + (1) := addI (A := i.toInt) (B := 1) ex_108 rfl rfl (by omega) (by omega)
        refine lv_goto (tgt := 54) S.1 S.2.1 dX9_count_80 (by decide) ?_
        exact ih x_108 x_107 (by first | assumption | omega | decide | (rw [show Int32.toInt 0 = 0 from rfl]; omega)) (by first | assumption | omega | decide | (rw [show Int32.toInt 0 = 0 from rfl]; omega)) (by omega) H _ ls hP hD hS (lv_sub hl [0, 1, 2, 3] rfl)
set_option maxHeartbeats 4000000 in
set_option maxRecDepth 100000 in
theorem s_X9_count (l : Launch) (D : va_G) (cI cZ cC cS : ClassId) (sq : Nat → Nat) (sz : Nat) (y : Nat) (y_lane : Nat) (y_city : Nat) (a : Int32) (m_thrown : Int32) (m_status : Int32) (y_many : Nat) (y_item : Nat) (y_fresh : Nat) (m_isThere : Int32) (y_tape : Nat) (m_taped : Int32) (m_latest : Int32) (m_length : Int32) (m_cursor : Int32) (m_token : Int32) (m_start : Int32) (m_till : Int32) (m_fault : Int32) (m_faultAt : Int32) (m_seen : Int32) (m_mirrors : Int32) (y_cost : Nat) (y_away : Nat) (y_fee : Nat) (y_goesTo : Nat) (y_priceWas : Nat) (y_isKept : Nat) (y_kept : Nat) (y_trace : Nat) (m_traced : Int32) (la_ : Nat → Int32) (cy : Nat → Int32) (hpd_cy : prd cyK 192 cy) : mI l yX9_count wsX9_count 50 2000 D (tyW cI cZ cC cS) sq [(y, .inr (9, [.int m_thrown, .int m_status, .ref y_lane, .ref y_many, .ref y_item, .ref y_city, .ref y_fresh, .int m_isThere, .ref y_tape, .int m_taped, .int m_latest, .int m_length, .int m_cursor, .int m_token, .int m_start, .int m_till, .int m_fault, .int m_faultAt, .int m_seen, .int m_mirrors, .ref y_cost, .ref y_away, .ref y_fee, .ref y_goesTo, .ref y_priceWas, .ref y_isKept, .ref y_kept, .ref y_trace, .int m_traced])), (y_lane, .inl (cI, 8, .inl la_)), (y_city, .inl (cI, 192, .inl cy))] sz [.ref y, .int a] (fun r w => (w = [(y, .inr (9, [.int 0, .int m_status, .ref y_lane, .ref y_many, .ref y_item, .ref y_city, .ref y_fresh, .int m_isThere, .ref y_tape, .int m_taped, .int m_latest, .int m_length, .int m_cursor, .int m_token, .int m_start, .int m_till, .int m_fault, .int m_faultAt, .int m_seen, .int m_mirrors, .ref y_cost, .ref y_away, .ref y_fee, .ref y_goesTo, .ref y_priceWas, .ref y_isKept, .ref y_kept, .ref y_trace, .int m_traced])), (y_lane, .inl (cI, 8, .inl la_)), (y_city, .inl (cI, 192, .inl cy))])) := by
  refine b_metI (cc := cX9_count) (maxL := 4) (ret := (some .int)) (by decide) rfl (Nat.le_of_ble_eq_true rfl) ?_
  intro p e s m below meth c ls A H X hsz hP hK hT hD hA hS hl
  have S : CallFix p m c cX9_count 4 s ([.ref y, .int a] : List Value).toArray wsX9_count RX9 := X.1
  have hl : lv_has ls 4 [(0, .ref y), (1, .int a)] := hl
  have iX9 := jX9_count_X9
  refine lv_aload_n S.1 S.2.1 dX9_count_0 rfl (lv_at hl 0 rfl) ?_
  refine lv_iconst (v := (0)) S.1 S.2.1 dX9_count_1 (by decide) ?_
  refine b_put (v := .int 0) S iX9 tyX9 tyX9_ok nmX9 hK hP hD hS 0 rfl rfl 0 (by decide) (by decide +kernel) rfl rfl rfl (Nat.le_of_ble_eq_true rfl) dX9_count_2 (fun H locs hP hD hS => ?_)
  have hP : va_P D vwCl [(y, .inr (9, [.int 0, .int m_status, .ref y_lane, .ref y_many, .ref y_item, .ref y_city, .ref y_fresh, .int m_isThere, .ref y_tape, .int m_taped, .int m_latest, .int m_length, .int m_cursor, .int m_token, .int m_start, .int m_till, .int m_fault, .int m_faultAt, .int m_seen, .int m_mirrors, .ref y_cost, .ref y_away, .ref y_fee, .ref y_goesTo, .ref y_priceWas, .ref y_isKept, .ref y_kept, .ref y_trace, .int m_traced])), (y_lane, .inl (cI, 8, .inl la_)), (y_city, .inl (cI, 192, .inl cy))] H := hP
  have hD : va_D A [(y, .inr (9, [.int 0, .int m_status, .ref y_lane, .ref y_many, .ref y_item, .ref y_city, .ref y_fresh, .int m_isThere, .ref y_tape, .int m_taped, .int m_latest, .int m_length, .int m_cursor, .int m_token, .int m_start, .int m_till, .int m_fault, .int m_faultAt, .int m_seen, .int m_mirrors, .ref y_cost, .ref y_away, .ref y_fee, .ref y_goesTo, .ref y_priceWas, .ref y_isKept, .ref y_kept, .ref y_trace, .int m_traced])), (y_lane, .inl (cI, 8, .inl la_)), (y_city, .inl (cI, 192, .inl cy))] := hD
  refine lv_iconst (v := (0)) S.1 S.2.1 dX9_count_5 (by decide) ?_
  refine lv_istore_n (lv' := [(2, .int 0), (0, .ref y), (1, .int a)]) S.1 S.2.1 dX9_count_6 rfl hl (by decide) rfl (fun ls hl => ?_)
  refine lv_iload_n S.1 S.2.1 dX9_count_7 rfl (lv_at hl 2 rfl) ?_
  rcases (show a.toInt = 0 ∨ a.toInt = 1 ∨ a.toInt = 2 ∨ a.toInt = 3 ∨ a.toInt = 4 ∨ a.toInt = 5 ∨ a.toInt = 6 ∨ (a.toInt < 0 ∨ 6 < a.toInt) by omega) with hsw | hsw | hsw | hsw | hsw | hsw | hsw | hsw
  · refine lv_tableIn (off := 44) (tgt := 52) S.1 S.2.1 dX9_count_8 (by omega) (by omega) (by rw [hsw]; rfl) (by decide) ?_
    refine lv_iconst (v := (0)) S.1 S.2.1 dX9_count_52 (by decide) ?_
    refine lv_istore_n (lv' := [(3, .int 0), (2, .int 0), (0, .ref y), (1, .int a)]) S.1 S.2.1 dX9_count_53 rfl hl (by decide) rfl (fun ls hl => ?_)
    refine lp_mcount l D cI cZ cC cS sq y y_lane y_city a m_thrown m_status y_many y_item y_fresh m_isThere y_tape m_taped m_latest m_length m_cursor m_token m_start m_till m_fault m_faultAt m_seen m_mirrors y_cost y_away y_fee y_goesTo y_priceWas y_isKept y_kept y_trace m_traced la_ cy hpd_cy X hK hT hA (fun i_1 q_2 hi_3 hi_4 H locs ls hP hD hS hl => ?_) _ (0) (0) (by first | assumption | omega | decide | (rw [show Int32.toInt 0 = 0 from rfl]; omega)) (by first | assumption | omega | decide | (rw [show Int32.toInt 0 = 0 from rfl]; omega)) (Nat.lt_succ_self _) H _ ls hP hD hS (lv_sub hl [0, 1, 2, 3] rfl)
    refine lv_iload_n S.1 S.2.1 dX9_count_83 rfl (lv_at hl 1 rfl) ?_
    exact b_iret S.1 S.2.1 X.2.1 X.2.2.1 hP hD hS rfl dX9_count_84
  · refine lv_tableIn (off := 77) (tgt := 85) S.1 S.2.1 dX9_count_8 (by omega) (by omega) (by rw [hsw]; rfl) (by decide) ?_
    refine lv_aload_n S.1 S.2.1 dX9_count_85 rfl (lv_at hl 1 rfl) ?_
    refine b_get (v := .ref y_city) S iX9 hK hP 0 rfl rfl 5 (by decide) (by decide +kernel) rfl dX9_count_86 ?_
    refine lv_iconst (v := (0)) S.1 S.2.1 dX9_count_89 (by decide) ?_
    have hin_5 : vp_in (0 : Int32) 192 := (by unfold vp_in; decide)
    refine va_iald S.1 S.2.1 hK.1 hP 2 0 rfl rfl hin_5 dX9_count_90 ?_
    refine lv_topi (fun x_6 ex_6 => ?_)
    have tx_6 := cyg_W (x := x_6) (show prd cyK 192 cy by assumption) (by decide) ex_6
    exact b_iret S.1 S.2.1 X.2.1 X.2.2.1 hP hD hS rfl dX9_count_91
  · refine lv_tableIn (off := 84) (tgt := 92) S.1 S.2.1 dX9_count_8 (by omega) (by omega) (by rw [hsw]; rfl) (by decide) ?_
    refine lv_aload_n S.1 S.2.1 dX9_count_92 rfl (lv_at hl 1 rfl) ?_
    refine b_get (v := .ref y_city) S iX9 hK hP 0 rfl rfl 5 (by decide) (by decide +kernel) rfl dX9_count_93 ?_
    refine lv_iconst (v := (1)) S.1 S.2.1 dX9_count_96 (by decide) ?_
    have hin_7 : vp_in (1 : Int32) 192 := (by unfold vp_in; decide)
    refine va_iald S.1 S.2.1 hK.1 hP 2 0 rfl rfl hin_7 dX9_count_97 ?_
    refine lv_topi (fun x_8 ex_8 => ?_)
    have tx_8 := cyg_H (x := x_8) (show prd cyK 192 cy by assumption) (by decide) ex_8
    exact b_iret S.1 S.2.1 X.2.1 X.2.2.1 hP hD hS rfl dX9_count_98
  · refine lv_tableIn (off := 91) (tgt := 99) S.1 S.2.1 dX9_count_8 (by omega) (by omega) (by rw [hsw]; rfl) (by decide) ?_
    refine lv_aload_n S.1 S.2.1 dX9_count_99 rfl (lv_at hl 1 rfl) ?_
    refine b_get (v := .ref y_city) S iX9 hK hP 0 rfl rfl 5 (by decide) (by decide +kernel) rfl dX9_count_100 ?_
    refine lv_iconst (v := (3)) S.1 S.2.1 dX9_count_103 (by decide) ?_
    have hin_9 : vp_in (3 : Int32) 192 := (by unfold vp_in; decide)
    refine va_iald S.1 S.2.1 hK.1 hP 2 0 rfl rfl hin_9 dX9_count_104 ?_
    refine lv_topi (fun x_10 ex_10 => ?_)
    have tx_10 := cyg_N (x := x_10) (show prd cyK 192 cy by assumption) (by decide) ex_10
    exact b_iret S.1 S.2.1 X.2.1 X.2.2.1 hP hD hS rfl dX9_count_105
  · refine lv_tableIn (off := 98) (tgt := 106) S.1 S.2.1 dX9_count_8 (by omega) (by omega) (by rw [hsw]; rfl) (by decide) ?_
    refine lv_aload_n S.1 S.2.1 dX9_count_106 rfl (lv_at hl 1 rfl) ?_
    refine lv_iload_n S.1 S.2.1 dX9_count_107 rfl (lv_at hl 2 rfl) ?_
    refine lv_iconst (v := (5)) S.1 S.2.1 dX9_count_108 (by decide) ?_
    refine lv_icmp_ne (tgt := 116) S.1 S.2.1 dX9_count_109 (by decide) (fun c_11 => ?_) (fun c_11 => ?_)
    · rw [eq2 (a := a) (b := 5) (A := a.toInt) (B := 5) rfl rfl] at c_11
      refine lv_iconst (v := (0)) S.1 S.2.1 dX9_count_116 (by decide) ?_
      refine b_ai (wr := [(y_lane, .inl (cI, 8, .inl la_))]) (b_runV (q0 := 0) (ci := 9) (As := [.int 0]) (s_X9_howMany l D cI cZ cC cS sq H.size y y_city (0) (0) m_status y_lane y_many y_item y_fresh m_isThere y_tape m_taped m_latest m_length m_cursor m_token m_start m_till m_fault m_faultAt m_seen m_mirrors y_cost y_away y_fee y_goesTo y_priceWas y_isKept y_kept y_trace m_traced cy (by first | assumption | omega | decide | (rw [show Int32.toInt 0 = 0 from rfl]; omega))) S gX9_count_X9_howMany rfl hdV_X9_howMany ⟨Nat.le_of_ble_eq_true rfl, Nat.le_of_ble_eq_true rfl⟩ ⟨Nat.le_of_ble_eq_true rfl, Nat.le_of_ble_eq_true rfl⟩ hK hT hS hA hP hD rfl rfl [0, 2] rfl (by decide) rfl hl.1 rfl (Nat.le_of_ble_eq_true rfl) dX9_count_117) hP hD hS hA [0, 2] [1] rfl rfl (by decide) (by decide) (fun r_12 w_13 H locs hw_14 hP hD hS => ?_)
      obtain rfl := hw_14
      have hP : va_P D vwCl [(y_lane, .inl (cI, 8, .inl la_)), (y, .inr (9, [.int 0, .int m_status, .ref y_lane, .ref y_many, .ref y_item, .ref y_city, .ref y_fresh, .int m_isThere, .ref y_tape, .int m_taped, .int m_latest, .int m_length, .int m_cursor, .int m_token, .int m_start, .int m_till, .int m_fault, .int m_faultAt, .int m_seen, .int m_mirrors, .ref y_cost, .ref y_away, .ref y_fee, .ref y_goesTo, .ref y_priceWas, .ref y_isKept, .ref y_kept, .ref y_trace, .int m_traced])), (y_city, .inl (cI, 192, .inl cy))] H := hP
      have hD : va_D A [(y_lane, .inl (cI, 8, .inl la_)), (y, .inr (9, [.int 0, .int m_status, .ref y_lane, .ref y_many, .ref y_item, .ref y_city, .ref y_fresh, .int m_isThere, .ref y_tape, .int m_taped, .int m_latest, .int m_length, .int m_cursor, .int m_token, .int m_start, .int m_till, .int m_fault, .int m_faultAt, .int m_seen, .int m_mirrors, .ref y_cost, .ref y_away, .ref y_fee, .ref y_goesTo, .ref y_priceWas, .ref y_isKept, .ref y_kept, .ref y_trace, .int m_traced])), (y_city, .inl (cI, 192, .inl cy))] := hD
      have hP := hP.sub (ws' := [(y, .inr (9, [.int 0, .int m_status, .ref y_lane, .ref y_many, .ref y_item, .ref y_city, .ref y_fresh, .int m_isThere, .ref y_tape, .int m_taped, .int m_latest, .int m_length, .int m_cursor, .int m_token, .int m_start, .int m_till, .int m_fault, .int m_faultAt, .int m_seen, .int m_mirrors, .ref y_cost, .ref y_away, .ref y_fee, .ref y_goesTo, .ref y_priceWas, .ref y_isKept, .ref y_kept, .ref y_trace, .int m_traced])), (y_lane, .inl (cI, 8, .inl la_)), (y_city, .inl (cI, 192, .inl cy))]) [1, 0, 2] rfl
      have hD := hD.sub (ws' := [(y, .inr (9, [.int 0, .int m_status, .ref y_lane, .ref y_many, .ref y_item, .ref y_city, .ref y_fresh, .int m_isThere, .ref y_tape, .int m_taped, .int m_latest, .int m_length, .int m_cursor, .int m_token, .int m_start, .int m_till, .int m_fault, .int m_faultAt, .int m_seen, .int m_mirrors, .ref y_cost, .ref y_away, .ref y_fee, .ref y_goesTo, .ref y_priceWas, .ref y_isKept, .ref y_kept, .ref y_trace, .int m_traced])), (y_lane, .inl (cI, 8, .inl la_)), (y_city, .inl (cI, 192, .inl cy))]) [1, 0, 2] (by decide) rfl
      exact b_iret S.1 S.2.1 X.2.1 X.2.2.1 hP hD hS rfl dX9_count_120
    · rw [eq2 (a := a) (b := 5) (A := a.toInt) (B := 5) rfl rfl] at c_11
      refine lv_iconst (v := (1)) S.1 S.2.1 dX9_count_112 (by decide) ?_
      refine lv_goto (tgt := 117) S.1 S.2.1 dX9_count_113 (by decide) ?_
      refine b_ai (wr := [(y_lane, .inl (cI, 8, .inl la_))]) (b_runV (q0 := 0) (ci := 9) (As := [.int 1]) (s_X9_howMany l D cI cZ cC cS sq H.size y y_city (1) (0) m_status y_lane y_many y_item y_fresh m_isThere y_tape m_taped m_latest m_length m_cursor m_token m_start m_till m_fault m_faultAt m_seen m_mirrors y_cost y_away y_fee y_goesTo y_priceWas y_isKept y_kept y_trace m_traced cy (by first | assumption | omega | decide | (rw [show Int32.toInt 0 = 0 from rfl]; omega))) S gX9_count_X9_howMany rfl hdV_X9_howMany ⟨Nat.le_of_ble_eq_true rfl, Nat.le_of_ble_eq_true rfl⟩ ⟨Nat.le_of_ble_eq_true rfl, Nat.le_of_ble_eq_true rfl⟩ hK hT hS hA hP hD rfl rfl [0, 2] rfl (by decide) rfl hl.1 rfl (Nat.le_of_ble_eq_true rfl) dX9_count_117) hP hD hS hA [0, 2] [1] rfl rfl (by decide) (by decide) (fun r_15 w_16 H locs hw_17 hP hD hS => ?_)
      obtain rfl := hw_17
      have hP : va_P D vwCl [(y_lane, .inl (cI, 8, .inl la_)), (y, .inr (9, [.int 0, .int m_status, .ref y_lane, .ref y_many, .ref y_item, .ref y_city, .ref y_fresh, .int m_isThere, .ref y_tape, .int m_taped, .int m_latest, .int m_length, .int m_cursor, .int m_token, .int m_start, .int m_till, .int m_fault, .int m_faultAt, .int m_seen, .int m_mirrors, .ref y_cost, .ref y_away, .ref y_fee, .ref y_goesTo, .ref y_priceWas, .ref y_isKept, .ref y_kept, .ref y_trace, .int m_traced])), (y_city, .inl (cI, 192, .inl cy))] H := hP
      have hD : va_D A [(y_lane, .inl (cI, 8, .inl la_)), (y, .inr (9, [.int 0, .int m_status, .ref y_lane, .ref y_many, .ref y_item, .ref y_city, .ref y_fresh, .int m_isThere, .ref y_tape, .int m_taped, .int m_latest, .int m_length, .int m_cursor, .int m_token, .int m_start, .int m_till, .int m_fault, .int m_faultAt, .int m_seen, .int m_mirrors, .ref y_cost, .ref y_away, .ref y_fee, .ref y_goesTo, .ref y_priceWas, .ref y_isKept, .ref y_kept, .ref y_trace, .int m_traced])), (y_city, .inl (cI, 192, .inl cy))] := hD
      have hP := hP.sub (ws' := [(y, .inr (9, [.int 0, .int m_status, .ref y_lane, .ref y_many, .ref y_item, .ref y_city, .ref y_fresh, .int m_isThere, .ref y_tape, .int m_taped, .int m_latest, .int m_length, .int m_cursor, .int m_token, .int m_start, .int m_till, .int m_fault, .int m_faultAt, .int m_seen, .int m_mirrors, .ref y_cost, .ref y_away, .ref y_fee, .ref y_goesTo, .ref y_priceWas, .ref y_isKept, .ref y_kept, .ref y_trace, .int m_traced])), (y_lane, .inl (cI, 8, .inl la_)), (y_city, .inl (cI, 192, .inl cy))]) [1, 0, 2] rfl
      have hD := hD.sub (ws' := [(y, .inr (9, [.int 0, .int m_status, .ref y_lane, .ref y_many, .ref y_item, .ref y_city, .ref y_fresh, .int m_isThere, .ref y_tape, .int m_taped, .int m_latest, .int m_length, .int m_cursor, .int m_token, .int m_start, .int m_till, .int m_fault, .int m_faultAt, .int m_seen, .int m_mirrors, .ref y_cost, .ref y_away, .ref y_fee, .ref y_goesTo, .ref y_priceWas, .ref y_isKept, .ref y_kept, .ref y_trace, .int m_traced])), (y_lane, .inl (cI, 8, .inl la_)), (y_city, .inl (cI, 192, .inl cy))]) [1, 0, 2] (by decide) rfl
      exact b_iret S.1 S.2.1 X.2.1 X.2.2.1 hP hD hS rfl dX9_count_120
  · refine lv_tableIn (off := 98) (tgt := 106) S.1 S.2.1 dX9_count_8 (by omega) (by omega) (by rw [hsw]; rfl) (by decide) ?_
    refine lv_aload_n S.1 S.2.1 dX9_count_106 rfl (lv_at hl 1 rfl) ?_
    refine lv_iload_n S.1 S.2.1 dX9_count_107 rfl (lv_at hl 2 rfl) ?_
    refine lv_iconst (v := (5)) S.1 S.2.1 dX9_count_108 (by decide) ?_
    refine lv_icmp_ne (tgt := 116) S.1 S.2.1 dX9_count_109 (by decide) (fun c_18 => ?_) (fun c_18 => ?_)
    · rw [eq2 (a := a) (b := 5) (A := a.toInt) (B := 5) rfl rfl] at c_18
      refine lv_iconst (v := (0)) S.1 S.2.1 dX9_count_116 (by decide) ?_
      refine b_ai (wr := [(y_lane, .inl (cI, 8, .inl la_))]) (b_runV (q0 := 0) (ci := 9) (As := [.int 0]) (s_X9_howMany l D cI cZ cC cS sq H.size y y_city (0) (0) m_status y_lane y_many y_item y_fresh m_isThere y_tape m_taped m_latest m_length m_cursor m_token m_start m_till m_fault m_faultAt m_seen m_mirrors y_cost y_away y_fee y_goesTo y_priceWas y_isKept y_kept y_trace m_traced cy (by first | assumption | omega | decide | (rw [show Int32.toInt 0 = 0 from rfl]; omega))) S gX9_count_X9_howMany rfl hdV_X9_howMany ⟨Nat.le_of_ble_eq_true rfl, Nat.le_of_ble_eq_true rfl⟩ ⟨Nat.le_of_ble_eq_true rfl, Nat.le_of_ble_eq_true rfl⟩ hK hT hS hA hP hD rfl rfl [0, 2] rfl (by decide) rfl hl.1 rfl (Nat.le_of_ble_eq_true rfl) dX9_count_117) hP hD hS hA [0, 2] [1] rfl rfl (by decide) (by decide) (fun r_19 w_20 H locs hw_21 hP hD hS => ?_)
      obtain rfl := hw_21
      have hP : va_P D vwCl [(y_lane, .inl (cI, 8, .inl la_)), (y, .inr (9, [.int 0, .int m_status, .ref y_lane, .ref y_many, .ref y_item, .ref y_city, .ref y_fresh, .int m_isThere, .ref y_tape, .int m_taped, .int m_latest, .int m_length, .int m_cursor, .int m_token, .int m_start, .int m_till, .int m_fault, .int m_faultAt, .int m_seen, .int m_mirrors, .ref y_cost, .ref y_away, .ref y_fee, .ref y_goesTo, .ref y_priceWas, .ref y_isKept, .ref y_kept, .ref y_trace, .int m_traced])), (y_city, .inl (cI, 192, .inl cy))] H := hP
      have hD : va_D A [(y_lane, .inl (cI, 8, .inl la_)), (y, .inr (9, [.int 0, .int m_status, .ref y_lane, .ref y_many, .ref y_item, .ref y_city, .ref y_fresh, .int m_isThere, .ref y_tape, .int m_taped, .int m_latest, .int m_length, .int m_cursor, .int m_token, .int m_start, .int m_till, .int m_fault, .int m_faultAt, .int m_seen, .int m_mirrors, .ref y_cost, .ref y_away, .ref y_fee, .ref y_goesTo, .ref y_priceWas, .ref y_isKept, .ref y_kept, .ref y_trace, .int m_traced])), (y_city, .inl (cI, 192, .inl cy))] := hD
      have hP := hP.sub (ws' := [(y, .inr (9, [.int 0, .int m_status, .ref y_lane, .ref y_many, .ref y_item, .ref y_city, .ref y_fresh, .int m_isThere, .ref y_tape, .int m_taped, .int m_latest, .int m_length, .int m_cursor, .int m_token, .int m_start, .int m_till, .int m_fault, .int m_faultAt, .int m_seen, .int m_mirrors, .ref y_cost, .ref y_away, .ref y_fee, .ref y_goesTo, .ref y_priceWas, .ref y_isKept, .ref y_kept, .ref y_trace, .int m_traced])), (y_lane, .inl (cI, 8, .inl la_)), (y_city, .inl (cI, 192, .inl cy))]) [1, 0, 2] rfl
      have hD := hD.sub (ws' := [(y, .inr (9, [.int 0, .int m_status, .ref y_lane, .ref y_many, .ref y_item, .ref y_city, .ref y_fresh, .int m_isThere, .ref y_tape, .int m_taped, .int m_latest, .int m_length, .int m_cursor, .int m_token, .int m_start, .int m_till, .int m_fault, .int m_faultAt, .int m_seen, .int m_mirrors, .ref y_cost, .ref y_away, .ref y_fee, .ref y_goesTo, .ref y_priceWas, .ref y_isKept, .ref y_kept, .ref y_trace, .int m_traced])), (y_lane, .inl (cI, 8, .inl la_)), (y_city, .inl (cI, 192, .inl cy))]) [1, 0, 2] (by decide) rfl
      exact b_iret S.1 S.2.1 X.2.1 X.2.2.1 hP hD hS rfl dX9_count_120
    · rw [eq2 (a := a) (b := 5) (A := a.toInt) (B := 5) rfl rfl] at c_18
      refine lv_iconst (v := (1)) S.1 S.2.1 dX9_count_112 (by decide) ?_
      refine lv_goto (tgt := 117) S.1 S.2.1 dX9_count_113 (by decide) ?_
      refine b_ai (wr := [(y_lane, .inl (cI, 8, .inl la_))]) (b_runV (q0 := 0) (ci := 9) (As := [.int 1]) (s_X9_howMany l D cI cZ cC cS sq H.size y y_city (1) (0) m_status y_lane y_many y_item y_fresh m_isThere y_tape m_taped m_latest m_length m_cursor m_token m_start m_till m_fault m_faultAt m_seen m_mirrors y_cost y_away y_fee y_goesTo y_priceWas y_isKept y_kept y_trace m_traced cy (by first | assumption | omega | decide | (rw [show Int32.toInt 0 = 0 from rfl]; omega))) S gX9_count_X9_howMany rfl hdV_X9_howMany ⟨Nat.le_of_ble_eq_true rfl, Nat.le_of_ble_eq_true rfl⟩ ⟨Nat.le_of_ble_eq_true rfl, Nat.le_of_ble_eq_true rfl⟩ hK hT hS hA hP hD rfl rfl [0, 2] rfl (by decide) rfl hl.1 rfl (Nat.le_of_ble_eq_true rfl) dX9_count_117) hP hD hS hA [0, 2] [1] rfl rfl (by decide) (by decide) (fun r_22 w_23 H locs hw_24 hP hD hS => ?_)
      obtain rfl := hw_24
      have hP : va_P D vwCl [(y_lane, .inl (cI, 8, .inl la_)), (y, .inr (9, [.int 0, .int m_status, .ref y_lane, .ref y_many, .ref y_item, .ref y_city, .ref y_fresh, .int m_isThere, .ref y_tape, .int m_taped, .int m_latest, .int m_length, .int m_cursor, .int m_token, .int m_start, .int m_till, .int m_fault, .int m_faultAt, .int m_seen, .int m_mirrors, .ref y_cost, .ref y_away, .ref y_fee, .ref y_goesTo, .ref y_priceWas, .ref y_isKept, .ref y_kept, .ref y_trace, .int m_traced])), (y_city, .inl (cI, 192, .inl cy))] H := hP
      have hD : va_D A [(y_lane, .inl (cI, 8, .inl la_)), (y, .inr (9, [.int 0, .int m_status, .ref y_lane, .ref y_many, .ref y_item, .ref y_city, .ref y_fresh, .int m_isThere, .ref y_tape, .int m_taped, .int m_latest, .int m_length, .int m_cursor, .int m_token, .int m_start, .int m_till, .int m_fault, .int m_faultAt, .int m_seen, .int m_mirrors, .ref y_cost, .ref y_away, .ref y_fee, .ref y_goesTo, .ref y_priceWas, .ref y_isKept, .ref y_kept, .ref y_trace, .int m_traced])), (y_city, .inl (cI, 192, .inl cy))] := hD
      have hP := hP.sub (ws' := [(y, .inr (9, [.int 0, .int m_status, .ref y_lane, .ref y_many, .ref y_item, .ref y_city, .ref y_fresh, .int m_isThere, .ref y_tape, .int m_taped, .int m_latest, .int m_length, .int m_cursor, .int m_token, .int m_start, .int m_till, .int m_fault, .int m_faultAt, .int m_seen, .int m_mirrors, .ref y_cost, .ref y_away, .ref y_fee, .ref y_goesTo, .ref y_priceWas, .ref y_isKept, .ref y_kept, .ref y_trace, .int m_traced])), (y_lane, .inl (cI, 8, .inl la_)), (y_city, .inl (cI, 192, .inl cy))]) [1, 0, 2] rfl
      have hD := hD.sub (ws' := [(y, .inr (9, [.int 0, .int m_status, .ref y_lane, .ref y_many, .ref y_item, .ref y_city, .ref y_fresh, .int m_isThere, .ref y_tape, .int m_taped, .int m_latest, .int m_length, .int m_cursor, .int m_token, .int m_start, .int m_till, .int m_fault, .int m_faultAt, .int m_seen, .int m_mirrors, .ref y_cost, .ref y_away, .ref y_fee, .ref y_goesTo, .ref y_priceWas, .ref y_isKept, .ref y_kept, .ref y_trace, .int m_traced])), (y_lane, .inl (cI, 8, .inl la_)), (y_city, .inl (cI, 192, .inl cy))]) [1, 0, 2] (by decide) rfl
      exact b_iret S.1 S.2.1 X.2.1 X.2.2.1 hP hD hS rfl dX9_count_120
  · refine lv_tableIn (off := 113) (tgt := 121) S.1 S.2.1 dX9_count_8 (by omega) (by omega) (by rw [hsw]; rfl) (by decide) ?_
    refine lv_aload_n S.1 S.2.1 dX9_count_121 rfl (lv_at hl 1 rfl) ?_
    refine b_get (v := .int m_taped) S iX9 hK hP 0 rfl rfl 9 (by decide) (by decide +kernel) rfl dX9_count_122 ?_
    exact b_iret S.1 S.2.1 X.2.1 X.2.2.1 hP hD hS rfl dX9_count_125
  · refine lv_tableOut (tgt := 126) S.1 S.2.1 dX9_count_8 hsw (by decide) ?_
    refine lv_ldc (v := (-1000001)) S.1 S.2.1 S.2.2.2.1 (S.2.2.2.2 (.constant RX9 73 (-1000001)) (by decide +kernel)) dX9_count_126 ?_
    have lqm1000001 : Int32.toInt (-1000001) = -1000001 := by decide
    exact b_iret S.1 S.2.1 X.2.1 X.2.2.1 hP hD hS rfl dX9_count_128
set_option maxHeartbeats 4000000 in
set_option maxRecDepth 100000 in
theorem lp_mhasF {p : Program} (l : Launch) {e : Env} {s : State} {m : MethodId} {below : List Frame} {meth : Method} {c : Code} (D : va_G) (cI cZ cC cS : ClassId) (sq : Nat → Nat) (y : Nat) (y_city : Nat) (a : Int32) (m_thrown : Int32) (m_status : Int32) (y_lane : Nat) (y_many : Nat) (y_item : Nat) (y_fresh : Nat) (m_isThere : Int32) (y_tape : Nat) (m_taped : Int32) (m_latest : Int32) (m_length : Int32) (m_cursor : Int32) (m_token : Int32) (m_start : Int32) (m_till : Int32) (m_fault : Int32) (m_faultAt : Int32) (m_seen : Int32) (m_mirrors : Int32) (y_cost : Nat) (y_away : Nat) (y_fee : Nat) (y_goesTo : Nat) (y_priceWas : Nat) (y_isKept : Nat) (y_kept : Nat) (y_trace : Nat) (m_traced : Int32) (cy : Nat → Int32) (hpd_cy : prd cyK 192 cy) {A : Nat → Prop} (X : bX p s m meth c cX9_hasFront 4 wsX9_hasFront yX9_hasFront (some .boolean) [.ref y, .int a]) (hK : kW D (tyW cI cZ cC cS) sq s) (hT : sT sq A s s.heap) (hA : ∀ q, s.heap.size ≤ q → A q) (K : ∀ (i : Int32) (isv : Int32), (prd cyK 192 cy) → (0 ≤ i.toInt ∧ i.toInt ≤ 80) → (isv = 0 ∨ isv = 1) → ∀ (H : Heap) (locs : List Loc) (ls : Array Slot), va_P D vwCl [(y, .inr (9, [.int m_thrown, .int m_status, .ref y_lane, .ref y_many, .ref y_item, .ref y_city, .ref y_fresh, .int m_isThere, .ref y_tape, .int m_taped, .int m_latest, .int m_length, .int m_cursor, .int m_token, .int m_start, .int m_till, .int m_fault, .int m_faultAt, .int m_seen, .int m_mirrors, .ref y_cost, .ref y_away, .ref y_fee, .ref y_goesTo, .ref y_priceWas, .ref y_isKept, .ref y_kept, .ref y_trace, .int m_traced])), (y_city, .inl (cI, 192, .inl cy))] H → va_D A [(y, .inr (9, [.int m_thrown, .int m_status, .ref y_lane, .ref y_many, .ref y_item, .ref y_city, .ref y_fresh, .int m_isThere, .ref y_tape, .int m_taped, .int m_latest, .int m_length, .int m_cursor, .int m_token, .int m_start, .int m_till, .int m_fault, .int m_faultAt, .int m_seen, .int m_mirrors, .ref y_cost, .ref y_away, .ref y_fee, .ref y_goesTo, .ref y_priceWas, .ref y_isKept, .ref y_kept, .ref y_trace, .int m_traced])), (y_city, .inl (cI, 192, .inl cy))] → va_S A s.heap H locs → lv_has ls 4 [(3, .int i), (2, .int isv), (0, .ref y), (1, .int a)] → W p l e (rmW 3 120 0 0) s m ([.ref y, .int a] : List Value).toArray below meth c H locs 0 0 (MQ below (va_Qi (fun r w => (r = 1 ∧ w = [(y, .inr (9, [.int m_thrown, .int m_status, .ref y_lane, .ref y_many, .ref y_item, .ref y_city, .ref y_fresh, .int m_isThere, .ref y_tape, .int m_taped, .int m_latest, .int m_length, .int m_cursor, .int m_token, .int m_start, .int m_till, .int m_fault, .int m_faultAt, .int m_seen, .int m_mirrors, .ref y_cost, .ref y_away, .ref y_fee, .ref y_goesTo, .ref y_priceWas, .ref y_isKept, .ref y_kept, .ref y_trace, .int m_traced])), (y_city, .inl (cI, 192, .inl cy))]) ∨ (r = 0 ∧ w = [(y, .inr (9, [.int m_thrown, .int m_status, .ref y_lane, .ref y_many, .ref y_item, .ref y_city, .ref y_fresh, .int m_isThere, .ref y_tape, .int m_taped, .int m_latest, .int m_length, .int m_cursor, .int m_token, .int m_start, .int m_till, .int m_fault, .int m_faultAt, .int m_seen, .int m_mirrors, .ref y_cost, .ref y_away, .ref y_fee, .ref y_goesTo, .ref y_priceWas, .ref y_isKept, .ref y_kept, .ref y_trace, .int m_traced])), (y_city, .inl (cI, 192, .inl cy))])) (wD D A) A) ([.ref y, .int a] : List Value).toArray s 0 0 A) (F0 m 46 ls [])) : ∀ (mN : Nat) (i : Int32) (isv : Int32), (prd cyK 192 cy) → (0 ≤ i.toInt ∧ i.toInt ≤ 80) → (isv = 0 ∨ isv = 1) → ((80 - i.toInt).toNat < mN) → ∀ (H : Heap) (locs : List Loc) (ls : Array Slot), va_P D vwCl [(y, .inr (9, [.int m_thrown, .int m_status, .ref y_lane, .ref y_many, .ref y_item, .ref y_city, .ref y_fresh, .int m_isThere, .ref y_tape, .int m_taped, .int m_latest, .int m_length, .int m_cursor, .int m_token, .int m_start, .int m_till, .int m_fault, .int m_faultAt, .int m_seen, .int m_mirrors, .ref y_cost, .ref y_away, .ref y_fee, .ref y_goesTo, .ref y_priceWas, .ref y_isKept, .ref y_kept, .ref y_trace, .int m_traced])), (y_city, .inl (cI, 192, .inl cy))] H → va_D A [(y, .inr (9, [.int m_thrown, .int m_status, .ref y_lane, .ref y_many, .ref y_item, .ref y_city, .ref y_fresh, .int m_isThere, .ref y_tape, .int m_taped, .int m_latest, .int m_length, .int m_cursor, .int m_token, .int m_start, .int m_till, .int m_fault, .int m_faultAt, .int m_seen, .int m_mirrors, .ref y_cost, .ref y_away, .ref y_fee, .ref y_goesTo, .ref y_priceWas, .ref y_isKept, .ref y_kept, .ref y_trace, .int m_traced])), (y_city, .inl (cI, 192, .inl cy))] → va_S A s.heap H locs → lv_has ls 4 [(3, .int i), (2, .int isv), (0, .ref y), (1, .int a)] → W p l e (rmW 3 120 0 0) s m ([.ref y, .int a] : List Value).toArray below meth c H locs 0 0 (MQ below (va_Qi (fun r w => (r = 1 ∧ w = [(y, .inr (9, [.int m_thrown, .int m_status, .ref y_lane, .ref y_many, .ref y_item, .ref y_city, .ref y_fresh, .int m_isThere, .ref y_tape, .int m_taped, .int m_latest, .int m_length, .int m_cursor, .int m_token, .int m_start, .int m_till, .int m_fault, .int m_faultAt, .int m_seen, .int m_mirrors, .ref y_cost, .ref y_away, .ref y_fee, .ref y_goesTo, .ref y_priceWas, .ref y_isKept, .ref y_kept, .ref y_trace, .int m_traced])), (y_city, .inl (cI, 192, .inl cy))]) ∨ (r = 0 ∧ w = [(y, .inr (9, [.int m_thrown, .int m_status, .ref y_lane, .ref y_many, .ref y_item, .ref y_city, .ref y_fresh, .int m_isThere, .ref y_tape, .int m_taped, .int m_latest, .int m_length, .int m_cursor, .int m_token, .int m_start, .int m_till, .int m_fault, .int m_faultAt, .int m_seen, .int m_mirrors, .ref y_cost, .ref y_away, .ref y_fee, .ref y_goesTo, .ref y_priceWas, .ref y_isKept, .ref y_kept, .ref y_trace, .int m_traced])), (y_city, .inl (cI, 192, .inl cy))])) (wD D A) A) ([.ref y, .int a] : List Value).toArray s 0 0 A) (F0 m 4 ls []) := by
  have S : CallFix p m c cX9_hasFront 4 s ([.ref y, .int a] : List Value).toArray wsX9_hasFront RX9 := X.1
  have iX9 := jX9_hasFront_X9
  intro mN
  induction mN with
  | zero => intro i isv hpd_cy hi hb hm; exact absurd hm (Nat.not_lt_zero _)
  | succ mN ih =>
    intro i isv hpd_cy hi hb hm H locs ls hP hD hS hl
    refine lv_iload_n S.1 S.2.1 dX9_hasFront_4 rfl (lv_at hl 0 rfl) ?_
    refine lv_bipush (v := (80)) S.1 S.2.1 dX9_hasFront_5 (by decide) ?_
    refine lv_icmp_ge (tgt := 46) S.1 S.2.1 dX9_hasFront_7 (by decide) (fun c_101 => ?_) (fun c_101 => ?_)
    · rw [le2 (a := 80) (b := i) (A := 80) (B := i.toInt) rfl rfl] at c_101
      exact K i isv (by first | assumption | omega | decide | (rw [show Int32.toInt 0 = 0 from rfl]; omega)) (by first | assumption | omega | decide | (rw [show Int32.toInt 0 = 0 from rfl]; omega)) (by first | exact Or.inl rfl | exact Or.inr rfl | assumption) H _ ls hP hD hS (lv_sub hl [0, 1, 2, 3] rfl)
    · rw [le2 (a := 80) (b := i) (A := 80) (B := i.toInt) rfl rfl] at c_101
      refine lv_iload_n S.1 S.2.1 dX9_hasFront_10 rfl (lv_at hl 1 rfl) ?_
      refine lv_if_ne (tgt := 34) S.1 S.2.1 dX9_hasFront_11 (by decide) (fun c_102 => ?_) (fun c_102 => ?_)
      · rw [eq2 (a := isv) (b := 0) (A := isv.toInt) (B := 0) rfl rfl] at c_102
        refine lv_iconst (v := (1)) S.1 S.2.1 dX9_hasFront_34 (by decide) ?_
        refine lv_goto (tgt := 39) S.1 S.2.1 dX9_hasFront_35 (by decide) ?_
        refine lv_istore_n (lv' := [(2, .int 1), (3, .int i), (0, .ref y), (1, .int a)]) S.1 S.2.1 dX9_hasFront_39 rfl hl (by decide) rfl (fun ls hl => ?_)
        obtain ⟨x_103, ex_103⟩ : ∃ y : Int32, y = i + Int32.ofInt (1) := ⟨_, rfl⟩
        refine lv_iinc (v := x_103) (lv' := [(3, .int x_103), (2, .int 1), (0, .ref y), (1, .int a)]) S.1 S.2.1 dX9_hasFront_40 hl (k := 1) rfl ex_103.symm (by decide) rfl (fun ls hl => ?_)
        have tx_103 : x_103.toInt = i.toInt + (1) := addI (A := i.toInt) (B := 1) ex_103 rfl rfl (by omega) (by omega)
        refine lv_goto (tgt := 4) S.1 S.2.1 dX9_hasFront_43 (by decide) ?_
        have lq1 : Int32.toInt (1) = 1 := by decide
        exact ih x_103 (1) (by first | assumption | omega | decide | (rw [show Int32.toInt 0 = 0 from rfl]; omega)) (by first | assumption | omega | decide | (rw [show Int32.toInt 0 = 0 from rfl]; omega)) (by first | exact Or.inl rfl | exact Or.inr rfl | assumption) (by omega) H _ ls hP hD hS (lv_sub hl [0, 1, 2, 3] rfl)
      · rw [eq2 (a := isv) (b := 0) (A := isv.toInt) (B := 0) rfl rfl] at c_102
        refine lv_aload_n S.1 S.2.1 dX9_hasFront_14 rfl (lv_at hl 2 rfl) ?_
        refine lv_iload_n S.1 S.2.1 dX9_hasFront_15 rfl (lv_at hl 0 rfl) ?_
        refine b_ai (wr := []) (b_runV (q0 := 0) (ci := 9) (As := [.int i]) (s_X9_isCell l D cI cZ cC cS sq H.size y y_city i m_thrown m_status y_lane y_many y_item y_fresh m_isThere y_tape m_taped m_latest m_length m_cursor m_token m_start m_till m_fault m_faultAt m_seen m_mirrors y_cost y_away y_fee y_goesTo y_priceWas y_isKept y_kept y_trace m_traced cy (by first | assumption | omega | decide | (rw [show Int32.toInt 0 = 0 from rfl]; omega))) S gX9_hasFront_X9_isCell rfl hdV_X9_isCell ⟨Nat.le_of_ble_eq_true rfl, Nat.le_of_ble_eq_true rfl⟩ ⟨Nat.le_of_ble_eq_true rfl, Nat.le_of_ble_eq_true rfl⟩ hK hT hS hA hP hD rfl rfl [0, 1] rfl (by decide) rfl hl.1 rfl (Nat.le_of_ble_eq_true rfl) dX9_hasFront_16) hP hD hS hA [0, 1] [] rfl rfl (by decide) (by decide) (fun r_104 w_105 H locs hw_106 hP hD hS => ?_)
        rcases hw_106 with ⟨hf_107, rfl, rfl⟩ | ⟨hf_108, rfl, rfl⟩
        · have hP : va_P D vwCl [(y, .inr (9, [.int m_thrown, .int m_status, .ref y_lane, .ref y_many, .ref y_item, .ref y_city, .ref y_fresh, .int m_isThere, .ref y_tape, .int m_taped, .int m_latest, .int m_length, .int m_cursor, .int m_token, .int m_start, .int m_till, .int m_fault, .int m_faultAt, .int m_seen, .int m_mirrors, .ref y_cost, .ref y_away, .ref y_fee, .ref y_goesTo, .ref y_priceWas, .ref y_isKept, .ref y_kept, .ref y_trace, .int m_traced])), (y_city, .inl (cI, 192, .inl cy))] H := hP
          have hD : va_D A [(y, .inr (9, [.int m_thrown, .int m_status, .ref y_lane, .ref y_many, .ref y_item, .ref y_city, .ref y_fresh, .int m_isThere, .ref y_tape, .int m_taped, .int m_latest, .int m_length, .int m_cursor, .int m_token, .int m_start, .int m_till, .int m_fault, .int m_faultAt, .int m_seen, .int m_mirrors, .ref y_cost, .ref y_away, .ref y_fee, .ref y_goesTo, .ref y_priceWas, .ref y_isKept, .ref y_kept, .ref y_trace, .int m_traced])), (y_city, .inl (cI, 192, .inl cy))] := hD
          refine lv_if_eq (tgt := 38) S.1 S.2.1 dX9_hasFront_19 (by decide) (fun c_109 => absurd c_109 (by decide)) (fun c_109 => ?_)
          refine lv_aload_n S.1 S.2.1 dX9_hasFront_22 rfl (lv_at hl 2 rfl) ?_
          refine b_get (v := .ref y_city) S iX9 hK hP 0 rfl rfl 5 (by decide) (by decide +kernel) rfl dX9_hasFront_23 ?_
          refine lv_iconst (v := (4)) S.1 S.2.1 dX9_hasFront_26 (by decide) ?_
          refine lv_iload_n S.1 S.2.1 dX9_hasFront_27 rfl (lv_at hl 0 rfl) ?_
          refine lv_iadd S.1 S.2.1 dX9_hasFront_28 ?_
          refine lv_topi (fun x_110 ex_110 => ?_)
          have tx_110 : x_110.toInt = 4 + (i.toInt) := addI (A := 4) (B := i.toInt) ex_110 rfl rfl (by omega) (by omega)
          have hin_111 : vp_in x_110 192 := (in_of (n := 192) (by omega) (by omega))
          refine va_iald S.1 S.2.1 hK.1 hP 1 0 rfl rfl hin_111 dX9_hasFront_29 ?_
          refine lv_topi (fun x_112 ex_112 => ?_)
          have tx_112 := cyg_A (x := x_112) (show prd cyK 192 cy by assumption) (by omega) ex_112
          refine lv_iload_n S.1 S.2.1 dX9_hasFront_30 rfl (lv_at hl 3 rfl) ?_
          refine lv_icmp_ne (tgt := 38) S.1 S.2.1 dX9_hasFront_31 (by decide) (fun c_113 => ?_) (fun c_113 => ?_)
          · rw [eq2 (a := x_112) (b := a) (A := x_112.toInt) (B := a.toInt) rfl rfl] at c_113
            refine lv_iconst (v := (0)) S.1 S.2.1 dX9_hasFront_38 (by decide) ?_
            refine lv_istore_n (lv' := [(2, .int 0), (3, .int i), (0, .ref y), (1, .int a)]) S.1 S.2.1 dX9_hasFront_39 rfl hl (by decide) rfl (fun ls hl => ?_)
            obtain ⟨x_114, ex_114⟩ : ∃ y : Int32, y = i + Int32.ofInt (1) := ⟨_, rfl⟩
            refine lv_iinc (v := x_114) (lv' := [(3, .int x_114), (2, .int 0), (0, .ref y), (1, .int a)]) S.1 S.2.1 dX9_hasFront_40 hl (k := 1) rfl ex_114.symm (by decide) rfl (fun ls hl => ?_)
            have tx_114 : x_114.toInt = i.toInt + (1) := addI (A := i.toInt) (B := 1) ex_114 rfl rfl (by omega) (by omega)
            refine lv_goto (tgt := 4) S.1 S.2.1 dX9_hasFront_43 (by decide) ?_
            have lq0 : Int32.toInt (0) = 0 := by decide
            exact ih x_114 (0) (by first | assumption | omega | decide | (rw [show Int32.toInt 0 = 0 from rfl]; omega)) (by first | assumption | omega | decide | (rw [show Int32.toInt 0 = 0 from rfl]; omega)) (by first | exact Or.inl rfl | exact Or.inr rfl | assumption) (by omega) H _ ls hP hD hS (lv_sub hl [0, 1, 2, 3] rfl)
          · rw [eq2 (a := x_112) (b := a) (A := x_112.toInt) (B := a.toInt) rfl rfl] at c_113
            refine lv_iconst (v := (1)) S.1 S.2.1 dX9_hasFront_34 (by decide) ?_
            refine lv_goto (tgt := 39) S.1 S.2.1 dX9_hasFront_35 (by decide) ?_
            refine lv_istore_n (lv' := [(2, .int 1), (3, .int i), (0, .ref y), (1, .int a)]) S.1 S.2.1 dX9_hasFront_39 rfl hl (by decide) rfl (fun ls hl => ?_)
            obtain ⟨x_115, ex_115⟩ : ∃ y : Int32, y = i + Int32.ofInt (1) := ⟨_, rfl⟩
            refine lv_iinc (v := x_115) (lv' := [(3, .int x_115), (2, .int 1), (0, .ref y), (1, .int a)]) S.1 S.2.1 dX9_hasFront_40 hl (k := 1) rfl ex_115.symm (by decide) rfl (fun ls hl => ?_)
            have tx_115 : x_115.toInt = i.toInt + (1) := addI (A := i.toInt) (B := 1) ex_115 rfl rfl (by omega) (by omega)
            refine lv_goto (tgt := 4) S.1 S.2.1 dX9_hasFront_43 (by decide) ?_
            have lq1 : Int32.toInt (1) = 1 := by decide
            exact ih x_115 (1) (by first | assumption | omega | decide | (rw [show Int32.toInt 0 = 0 from rfl]; omega)) (by first | assumption | omega | decide | (rw [show Int32.toInt 0 = 0 from rfl]; omega)) (by first | exact Or.inl rfl | exact Or.inr rfl | assumption) (by omega) H _ ls hP hD hS (lv_sub hl [0, 1, 2, 3] rfl)
        · have hP : va_P D vwCl [(y, .inr (9, [.int m_thrown, .int m_status, .ref y_lane, .ref y_many, .ref y_item, .ref y_city, .ref y_fresh, .int m_isThere, .ref y_tape, .int m_taped, .int m_latest, .int m_length, .int m_cursor, .int m_token, .int m_start, .int m_till, .int m_fault, .int m_faultAt, .int m_seen, .int m_mirrors, .ref y_cost, .ref y_away, .ref y_fee, .ref y_goesTo, .ref y_priceWas, .ref y_isKept, .ref y_kept, .ref y_trace, .int m_traced])), (y_city, .inl (cI, 192, .inl cy))] H := hP
          have hD : va_D A [(y, .inr (9, [.int m_thrown, .int m_status, .ref y_lane, .ref y_many, .ref y_item, .ref y_city, .ref y_fresh, .int m_isThere, .ref y_tape, .int m_taped, .int m_latest, .int m_length, .int m_cursor, .int m_token, .int m_start, .int m_till, .int m_fault, .int m_faultAt, .int m_seen, .int m_mirrors, .ref y_cost, .ref y_away, .ref y_fee, .ref y_goesTo, .ref y_priceWas, .ref y_isKept, .ref y_kept, .ref y_trace, .int m_traced])), (y_city, .inl (cI, 192, .inl cy))] := hD
          refine lv_if_eq (tgt := 38) S.1 S.2.1 dX9_hasFront_19 (by decide) (fun c_116 => ?_) (fun c_116 => absurd c_116 (by decide))
          refine lv_iconst (v := (0)) S.1 S.2.1 dX9_hasFront_38 (by decide) ?_
          refine lv_istore_n (lv' := [(2, .int 0), (3, .int i), (0, .ref y), (1, .int a)]) S.1 S.2.1 dX9_hasFront_39 rfl hl (by decide) rfl (fun ls hl => ?_)
          obtain ⟨x_117, ex_117⟩ : ∃ y : Int32, y = i + Int32.ofInt (1) := ⟨_, rfl⟩
          refine lv_iinc (v := x_117) (lv' := [(3, .int x_117), (2, .int 0), (0, .ref y), (1, .int a)]) S.1 S.2.1 dX9_hasFront_40 hl (k := 1) rfl ex_117.symm (by decide) rfl (fun ls hl => ?_)
          have tx_117 : x_117.toInt = i.toInt + (1) := addI (A := i.toInt) (B := 1) ex_117 rfl rfl (by omega) (by omega)
          refine lv_goto (tgt := 4) S.1 S.2.1 dX9_hasFront_43 (by decide) ?_
          have lq0 : Int32.toInt (0) = 0 := by decide
          exact ih x_117 (0) (by first | assumption | omega | decide | (rw [show Int32.toInt 0 = 0 from rfl]; omega)) (by first | assumption | omega | decide | (rw [show Int32.toInt 0 = 0 from rfl]; omega)) (by first | exact Or.inl rfl | exact Or.inr rfl | assumption) (by omega) H _ ls hP hD hS (lv_sub hl [0, 1, 2, 3] rfl)
set_option maxHeartbeats 4000000 in
set_option maxRecDepth 100000 in
theorem s_X9_hasFront (l : Launch) (D : va_G) (cI cZ cC cS : ClassId) (sq : Nat → Nat) (sz : Nat) (y : Nat) (y_city : Nat) (a : Int32) (m_thrown : Int32) (m_status : Int32) (y_lane : Nat) (y_many : Nat) (y_item : Nat) (y_fresh : Nat) (m_isThere : Int32) (y_tape : Nat) (m_taped : Int32) (m_latest : Int32) (m_length : Int32) (m_cursor : Int32) (m_token : Int32) (m_start : Int32) (m_till : Int32) (m_fault : Int32) (m_faultAt : Int32) (m_seen : Int32) (m_mirrors : Int32) (y_cost : Nat) (y_away : Nat) (y_fee : Nat) (y_goesTo : Nat) (y_priceWas : Nat) (y_isKept : Nat) (y_kept : Nat) (y_trace : Nat) (m_traced : Int32) (cy : Nat → Int32) (hpd_cy : prd cyK 192 cy) : mI l yX9_hasFront wsX9_hasFront 3 120 D (tyW cI cZ cC cS) sq [(y, .inr (9, [.int m_thrown, .int m_status, .ref y_lane, .ref y_many, .ref y_item, .ref y_city, .ref y_fresh, .int m_isThere, .ref y_tape, .int m_taped, .int m_latest, .int m_length, .int m_cursor, .int m_token, .int m_start, .int m_till, .int m_fault, .int m_faultAt, .int m_seen, .int m_mirrors, .ref y_cost, .ref y_away, .ref y_fee, .ref y_goesTo, .ref y_priceWas, .ref y_isKept, .ref y_kept, .ref y_trace, .int m_traced])), (y_city, .inl (cI, 192, .inl cy))] sz [.ref y, .int a] (fun r w => (r = 1 ∧ w = [(y, .inr (9, [.int m_thrown, .int m_status, .ref y_lane, .ref y_many, .ref y_item, .ref y_city, .ref y_fresh, .int m_isThere, .ref y_tape, .int m_taped, .int m_latest, .int m_length, .int m_cursor, .int m_token, .int m_start, .int m_till, .int m_fault, .int m_faultAt, .int m_seen, .int m_mirrors, .ref y_cost, .ref y_away, .ref y_fee, .ref y_goesTo, .ref y_priceWas, .ref y_isKept, .ref y_kept, .ref y_trace, .int m_traced])), (y_city, .inl (cI, 192, .inl cy))]) ∨ (r = 0 ∧ w = [(y, .inr (9, [.int m_thrown, .int m_status, .ref y_lane, .ref y_many, .ref y_item, .ref y_city, .ref y_fresh, .int m_isThere, .ref y_tape, .int m_taped, .int m_latest, .int m_length, .int m_cursor, .int m_token, .int m_start, .int m_till, .int m_fault, .int m_faultAt, .int m_seen, .int m_mirrors, .ref y_cost, .ref y_away, .ref y_fee, .ref y_goesTo, .ref y_priceWas, .ref y_isKept, .ref y_kept, .ref y_trace, .int m_traced])), (y_city, .inl (cI, 192, .inl cy))])) := by
  refine b_metI (cc := cX9_hasFront) (maxL := 4) (ret := (some .boolean)) (by decide) rfl (Nat.le_of_ble_eq_true rfl) ?_
  intro p e s m below meth c ls A H X hsz hP hK hT hD hA hS hl
  have S : CallFix p m c cX9_hasFront 4 s ([.ref y, .int a] : List Value).toArray wsX9_hasFront RX9 := X.1
  have hl : lv_has ls 4 [(0, .ref y), (1, .int a)] := hl
  refine lv_iconst (v := (0)) S.1 S.2.1 dX9_hasFront_0 (by decide) ?_
  refine lv_istore_n (lv' := [(2, .int 0), (0, .ref y), (1, .int a)]) S.1 S.2.1 dX9_hasFront_1 rfl hl (by decide) rfl (fun ls hl => ?_)
  refine lv_iconst (v := (0)) S.1 S.2.1 dX9_hasFront_2 (by decide) ?_
  refine lv_istore_n (lv' := [(3, .int 0), (2, .int 0), (0, .ref y), (1, .int a)]) S.1 S.2.1 dX9_hasFront_3 rfl hl (by decide) rfl (fun ls hl => ?_)
  refine lp_mhasF l D cI cZ cC cS sq y y_city a m_thrown m_status y_lane y_many y_item y_fresh m_isThere y_tape m_taped m_latest m_length m_cursor m_token m_start m_till m_fault m_faultAt m_seen m_mirrors y_cost y_away y_fee y_goesTo y_priceWas y_isKept y_kept y_trace m_traced cy hpd_cy X hK hT hA (fun i_1 isv_2 hi_3 hi_4 hi_5 H locs ls hP hD hS hl => ?_) _ (0) (0) (by first | assumption | omega | decide | (rw [show Int32.toInt 0 = 0 from rfl]; omega)) (by first | assumption | omega | decide | (rw [show Int32.toInt 0 = 0 from rfl]; omega)) (by first | exact Or.inl rfl | exact Or.inr rfl | assumption) (Nat.lt_succ_self _) H _ ls hP hD hS (lv_sub hl [0, 1, 2, 3] rfl)
  rcases (show isv_2 = 0 ∨ isv_2 = 1 from (by assumption)) with rfl | rfl
  · have hP : va_P D vwCl [(y, .inr (9, [.int m_thrown, .int m_status, .ref y_lane, .ref y_many, .ref y_item, .ref y_city, .ref y_fresh, .int m_isThere, .ref y_tape, .int m_taped, .int m_latest, .int m_length, .int m_cursor, .int m_token, .int m_start, .int m_till, .int m_fault, .int m_faultAt, .int m_seen, .int m_mirrors, .ref y_cost, .ref y_away, .ref y_fee, .ref y_goesTo, .ref y_priceWas, .ref y_isKept, .ref y_kept, .ref y_trace, .int m_traced])), (y_city, .inl (cI, 192, .inl cy))] H := hP
    have hD : va_D A [(y, .inr (9, [.int m_thrown, .int m_status, .ref y_lane, .ref y_many, .ref y_item, .ref y_city, .ref y_fresh, .int m_isThere, .ref y_tape, .int m_taped, .int m_latest, .int m_length, .int m_cursor, .int m_token, .int m_start, .int m_till, .int m_fault, .int m_faultAt, .int m_seen, .int m_mirrors, .ref y_cost, .ref y_away, .ref y_fee, .ref y_goesTo, .ref y_priceWas, .ref y_isKept, .ref y_kept, .ref y_trace, .int m_traced])), (y_city, .inl (cI, 192, .inl cy))] := hD
    have hl : lv_has ls 4 [(3, .int i_1), (2, .int 0), (0, .ref y), (1, .int a)] := hl
    refine lv_iload_n S.1 S.2.1 dX9_hasFront_46 rfl (lv_at hl 1 rfl) ?_
    exact b_zret S.1 S.2.1 X.2.1 X.2.2.1 rfl hP hD hS (Or.inr (⟨rfl, rfl⟩)) dX9_hasFront_47
  · have hP : va_P D vwCl [(y, .inr (9, [.int m_thrown, .int m_status, .ref y_lane, .ref y_many, .ref y_item, .ref y_city, .ref y_fresh, .int m_isThere, .ref y_tape, .int m_taped, .int m_latest, .int m_length, .int m_cursor, .int m_token, .int m_start, .int m_till, .int m_fault, .int m_faultAt, .int m_seen, .int m_mirrors, .ref y_cost, .ref y_away, .ref y_fee, .ref y_goesTo, .ref y_priceWas, .ref y_isKept, .ref y_kept, .ref y_trace, .int m_traced])), (y_city, .inl (cI, 192, .inl cy))] H := hP
    have hD : va_D A [(y, .inr (9, [.int m_thrown, .int m_status, .ref y_lane, .ref y_many, .ref y_item, .ref y_city, .ref y_fresh, .int m_isThere, .ref y_tape, .int m_taped, .int m_latest, .int m_length, .int m_cursor, .int m_token, .int m_start, .int m_till, .int m_fault, .int m_faultAt, .int m_seen, .int m_mirrors, .ref y_cost, .ref y_away, .ref y_fee, .ref y_goesTo, .ref y_priceWas, .ref y_isKept, .ref y_kept, .ref y_trace, .int m_traced])), (y_city, .inl (cI, 192, .inl cy))] := hD
    have hl : lv_has ls 4 [(3, .int i_1), (2, .int 1), (0, .ref y), (1, .int a)] := hl
    refine lv_iload_n S.1 S.2.1 dX9_hasFront_46 rfl (lv_at hl 1 rfl) ?_
    exact b_zret S.1 S.2.1 X.2.1 X.2.2.1 rfl hP hD hS (Or.inl ⟨rfl, rfl⟩) dX9_hasFront_47
