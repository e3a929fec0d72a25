set_option maxRecDepth 20000 in
theorem ggX9_firstShut_X9_nextTo : GoodIn wsX9_firstShut wsX9_nextTo := goodIn_r _ [6, 7, 8, 5, 9, 10, 11, 12, 13, 14, 15, 16, 1, 17, 18, 19, 20, 21, 22, 23, 24, 25, 26, 27, 28, 29, 30, 31, 32, 33, 34, 35, 36, 37, 38, 39, 40, 41, 42, 43, 44, 45, 46, 47, 48] (by first | exact rfl | decide +kernel) (by decide +kernel)
set_option maxRecDepth 20000 in
theorem gX9_firstShut_X9_nextTo : GoodIn wsX9_firstShut (wsV RX9 204 RX9 yX9_nextTo wsX9_nextTo) := goodIn_app (goodIn_r _ [2, 3, 4, 5] (by first | exact rfl | decide +kernel) (by decide +kernel)) ggX9_firstShut_X9_nextTo
set_option maxRecDepth 20000 in
theorem ggX9_isCell_X9_in : GoodIn wsX9_isCell wsX9_in := goodIn_r _ [5] (by first | exact rfl | decide +kernel) (by decide +kernel)
set_option maxRecDepth 20000 in
theorem gX9_isCell_X9_in : GoodIn wsX9_isCell (va_wsS RX9 63 yX9_in wsX9_in) := goodIn_app (goodIn_r _ [2, 3, 4] (by first | exact rfl | decide +kernel) (by decide +kernel)) ggX9_isCell_X9_in
set_option maxRecDepth 20000 in
theorem ggX9_isCell_X9_isIn : GoodIn wsX9_isCell wsX9_isIn := goodIn_r _ [9, 10, 2, 3, 4, 5, 11, 12, 13, 14, 15, 16, 17, 18, 19, 20, 21, 22, 23, 24, 25, 26, 27, 28, 29, 30, 31, 32, 33, 34, 35, 36, 37, 38, 39] (by first | exact rfl | decide +kernel) (by decide +kernel)
set_option maxRecDepth 20000 in
theorem gX9_isCell_X9_isIn : GoodIn wsX9_isCell (wsV RX9 191 RX9 yX9_isIn wsX9_isIn) := goodIn_app (goodIn_r _ [6, 7, 8, 4] (by first | exact rfl | decide +kernel) (by decide +kernel)) ggX9_isCell_X9_isIn
set_option maxRecDepth 20000 in
theorem ggX9_isIn_X9_in : GoodIn wsX9_isIn wsX9_in := goodIn_r _ [5] (by first | exact rfl | decide +kernel) (by decide +kernel)
set_option maxRecDepth 20000 in
theorem gX9_isIn_X9_in : GoodIn wsX9_isIn (va_wsS RX9 63 yX9_in wsX9_in) := goodIn_app (goodIn_r _ [2, 3, 4] (by first | exact rfl | decide +kernel) (by decide +kernel)) ggX9_isIn_X9_in
set_option maxRecDepth 20000 in
theorem ggX9_isOne_X9_in : GoodIn wsX9_isOne wsX9_in := goodIn_r _ [5] (by first | exact rfl | decide +kernel) (by decide +kernel)
set_option maxRecDepth 20000 in
theorem gX9_isOne_X9_in : GoodIn wsX9_isOne (va_wsS RX9 63 yX9_in wsX9_in) := goodIn_app (goodIn_r _ [2, 3, 4] (by first | exact rfl | decide +kernel) (by decide +kernel)) ggX9_isOne_X9_in
set_option maxRecDepth 20000 in
theorem ggX9_isOpen_X9_isCell : GoodIn wsX9_isOpen wsX9_isCell := goodIn_r _ [6, 7, 8, 9, 5, 10, 11, 12, 13, 14, 1, 15, 16, 17, 18, 19, 20, 21, 22, 23, 24, 25, 26, 27, 28, 29, 30, 31, 32, 33, 34, 35, 36, 37, 38, 39, 40, 41, 42, 43] (by first | exact rfl | decide +kernel) (by decide +kernel)
set_option maxRecDepth 20000 in
theorem gX9_isOpen_X9_isCell : GoodIn wsX9_isOpen (wsV RX9 195 RX9 yX9_isCell wsX9_isCell) := goodIn_app (goodIn_r _ [2, 3, 4, 5] (by first | exact rfl | decide +kernel) (by decide +kernel)) ggX9_isOpen_X9_isCell
set_option maxRecDepth 20000 in
theorem ggX9_lookFrom_X9_firstShut : GoodIn wsX9_lookFrom wsX9_firstShut := goodIn_r _ [8, 3, 9, 10, 11, 7, 12, 13, 14, 15, 16, 17, 18, 19, 20, 21, 22, 23, 24, 25, 26, 27, 28, 29, 30, 31, 32, 33, 34, 35, 36, 37, 38, 39, 40, 41, 42, 43, 44, 45, 46, 47, 48, 49, 50, 51, 52, 53, 54] (by first | exact rfl | decide +kernel) (by decide +kernel)
set_option maxRecDepth 20000 in
theorem gX9_lookFrom_X9_firstShut : GoodIn wsX9_lookFrom (wsV RX9 210 RX9 yX9_firstShut wsX9_firstShut) := goodIn_app (goodIn_r _ [4, 5, 6, 7] (by first | exact rfl | decide +kernel) (by decide +kernel)) ggX9_lookFrom_X9_firstShut
set_option maxRecDepth 20000 in
theorem ggX9_mayGo_X9_in : GoodIn wsX9_mayGo wsX9_in := goodIn_r _ [11] (by first | exact rfl | decide +kernel) (by decide +kernel)
set_option maxRecDepth 20000 in
theorem gX9_mayGo_X9_in : GoodIn wsX9_mayGo (va_wsS RX9 63 yX9_in wsX9_in) := goodIn_app (goodIn_r _ [9, 10, 6] (by first | exact rfl | decide +kernel) (by decide +kernel)) ggX9_mayGo_X9_in
set_option maxRecDepth 20000 in
theorem ggX9_mayGo_X9_of : GoodIn wsX9_mayGo wsX9_of := goodIn_r _ [7, 8, 12, 13, 14, 15, 16, 17, 18, 19, 20, 21, 22, 23, 24, 25, 26, 27, 28, 29, 30, 31, 32, 33, 34, 35, 36, 37, 38, 39, 40] (by first | exact rfl | decide +kernel) (by decide +kernel)
set_option maxRecDepth 20000 in
theorem gX9_mayGo_X9_of : GoodIn wsX9_mayGo (wsV RX9 239 RX9 yX9_of wsX9_of) := goodIn_app (goodIn_r _ [3, 4, 5, 6] (by first | exact rfl | decide +kernel) (by decide +kernel)) ggX9_mayGo_X9_of
set_option maxRecDepth 20000 in
theorem ggX9_nextTo_X9_east : GoodIn wsX9_nextTo wsX9_east := goodIn_r _ [4] (by first | exact rfl | decide +kernel) (by decide +kernel)
set_option maxRecDepth 20000 in
theorem gX9_nextTo_X9_east : GoodIn wsX9_nextTo (va_wsS RX9 198 yX9_east wsX9_east) := goodIn_app (goodIn_r _ [1, 2, 3] (by first | exact rfl | decide +kernel) (by decide +kernel)) ggX9_nextTo_X9_east
set_option maxRecDepth 20000 in
theorem ggX9_nextTo_X9_isIn : GoodIn wsX9_nextTo wsX9_isIn := goodIn_r _ [11, 12, 13, 14, 3, 15, 16, 17, 18, 19, 20, 21, 22, 23, 24, 25, 26, 27, 28, 29, 30, 31, 32, 33, 34, 35, 36, 37, 38, 39, 40, 41, 42, 43, 44] (by first | exact rfl | decide +kernel) (by decide +kernel)
set_option maxRecDepth 20000 in
theorem gX9_nextTo_X9_isIn : GoodIn wsX9_nextTo (wsV RX9 191 RX9 yX9_isIn wsX9_isIn) := goodIn_app (goodIn_r _ [8, 9, 10, 3] (by first | exact rfl | decide +kernel) (by decide +kernel)) ggX9_nextTo_X9_isIn
set_option maxRecDepth 20000 in
theorem ggX9_nextTo_X9_south : GoodIn wsX9_nextTo wsX9_south := goodIn_r _ [7] (by first | exact rfl | decide +kernel) (by decide +kernel)
set_option maxRecDepth 20000 in
theorem gX9_nextTo_X9_south : GoodIn wsX9_nextTo (va_wsS RX9 201 yX9_south wsX9_south) := goodIn_app (goodIn_r _ [5, 6, 3] (by first | exact rfl | decide +kernel) (by decide +kernel)) ggX9_nextTo_X9_south
set_option maxRecDepth 20000 in
theorem ggX9_paysNow_X9_of : GoodIn wsX9_paysNow wsX9_of := goodIn_r _ [11, 1, 17, 18, 19, 20, 21, 22, 23, 24, 25, 26, 27, 28, 29, 30, 31, 32, 33, 34, 35, 36, 37, 38, 39, 40, 41, 42, 43, 44, 45] (by first | exact rfl | decide +kernel) (by decide +kernel)
set_option maxRecDepth 20000 in
theorem gX9_paysNow_X9_of : GoodIn wsX9_paysNow (wsV RX9 239 RX9 yX9_of wsX9_of) := goodIn_app (goodIn_r _ [8, 9, 10, 5] (by first | exact rfl | decide +kernel) (by decide +kernel)) ggX9_paysNow_X9_of
set_option maxRecDepth 20000 in
theorem ggX9_paysNow_X9_ownerSeen : GoodIn wsX9_paysNow wsX9_ownerSeen := goodIn_r _ [6, 7, 1, 17, 18, 19, 20, 21, 22, 23, 24, 25, 26, 27, 28, 29, 30, 31, 32, 33, 34, 35, 36, 37, 38, 39, 40, 41, 42, 43, 44, 45] (by first | exact rfl | decide +kernel) (by decide +kernel)
set_option maxRecDepth 20000 in
theorem gX9_paysNow_X9_ownerSeen : GoodIn wsX9_paysNow (wsV RX9 216 RX9 yX9_ownerSeen wsX9_ownerSeen) := goodIn_app (goodIn_r _ [2, 3, 4, 5] (by first | exact rfl | decide +kernel) (by decide +kernel)) ggX9_paysNow_X9_ownerSeen
set_option maxRecDepth 20000 in
theorem ggX9_paysNow_X9_priceSeen : GoodIn wsX9_paysNow wsX9_priceSeen := goodIn_r _ [15, 1, 16, 2, 3, 4, 5, 6, 7, 17, 18, 19, 20, 21, 22, 23, 24, 25, 26, 27, 28, 29, 30, 31, 32, 33, 34, 35, 36, 37, 38, 39, 40, 41, 42, 43, 44, 45] (by first | exact rfl | decide +kernel) (by decide +kernel)
set_option maxRecDepth 20000 in
theorem gX9_paysNow_X9_priceSeen : GoodIn wsX9_paysNow (wsV RX9 228 RX9 yX9_priceSeen wsX9_priceSeen) := goodIn_app (goodIn_r _ [12, 13, 14, 5] (by first | exact rfl | decide +kernel) (by decide +kernel)) ggX9_paysNow_X9_priceSeen
set_option maxRecDepth 20000 in
theorem ggX9_priceSeen_X9_ownerSeen : GoodIn wsX9_priceSeen wsX9_ownerSeen := goodIn_r _ [7, 8, 1, 9, 10, 11, 12, 13, 14, 15, 16, 17, 18, 19, 20, 21, 22, 23, 24, 25, 26, 27, 28, 29, 30, 31, 32, 33, 34, 35, 36, 37] (by first | exact rfl | decide +kernel) (by decide +kernel)
set_option maxRecDepth 20000 in
theorem gX9_priceSeen_X9_ownerSeen : GoodIn wsX9_priceSeen (wsV RX9 216 RX9 yX9_ownerSeen wsX9_ownerSeen) := goodIn_app (goodIn_r _ [3, 4, 5, 6] (by first | exact rfl | decide +kernel) (by decide +kernel)) ggX9_priceSeen_X9_ownerSeen
set_option maxRecDepth 20000 in
theorem ggX9_steps_X9_lookFrom : GoodIn wsX9_steps wsX9_lookFrom := goodIn_r _ [10, 11, 12, 1, 13, 14, 15, 5, 16, 17, 18, 19, 20, 21, 22, 23, 24, 25, 26, 27, 28, 29, 30, 31, 32, 33, 46, 47, 48, 49, 50, 51, 52, 53, 54, 55, 56, 57, 58, 59, 60, 61, 62, 63, 64, 65, 66, 67, 68, 69, 70, 71, 72, 73, 74] (by first | exact rfl | decide +kernel) (by decide +kernel)
set_option maxRecDepth 20000 in
theorem gX9_steps_X9_lookFrom : GoodIn wsX9_steps (wsV RX9 225 RX9 yX9_lookFrom wsX9_lookFrom) := goodIn_app (goodIn_r _ [7, 8, 9, 5] (by first | exact rfl | decide +kernel) (by decide +kernel)) ggX9_steps_X9_lookFrom
set_option maxRecDepth 20000 in
theorem ggX9_steps_X9_nextTo : GoodIn wsX9_steps wsX9_nextTo := goodIn_r _ [20, 21, 22, 5, 23, 24, 25, 26, 27, 28, 29, 30, 1, 31, 32, 33, 46, 47, 48, 49, 50, 51, 52, 53, 54, 55, 56, 57, 58, 59, 60, 61, 62, 63, 64, 65, 66, 67, 68, 69, 70, 71, 72, 73, 74] (by first | exact rfl | decide +kernel) (by decide +kernel)
set_option maxRecDepth 20000 in
theorem gX9_steps_X9_nextTo : GoodIn wsX9_steps (wsV RX9 204 RX9 yX9_nextTo wsX9_nextTo) := goodIn_app (goodIn_r _ [17, 18, 19, 5] (by first | exact rfl | decide +kernel) (by decide +kernel)) ggX9_steps_X9_nextTo
set_option maxRecDepth 20000 in
theorem ggX9_steps_X9_of : GoodIn wsX9_steps wsX9_of := goodIn_r _ [6, 1, 46, 47, 48, 49, 50, 51, 52, 53, 54, 55, 56, 57, 58, 59, 60, 61, 62, 63, 64, 65, 66, 67, 68, 69, 70, 71, 72, 73, 74] (by first | exact rfl | decide +kernel) (by decide +kernel)
set_option maxRecDepth 20000 in
theorem gX9_steps_X9_of : GoodIn wsX9_steps (wsV RX9 239 RX9 yX9_of wsX9_of) := goodIn_app (goodIn_r _ [2, 3, 4, 5] (by first | exact rfl | decide +kernel) (by decide +kernel)) ggX9_steps_X9_of
set_option maxRecDepth 20000 in
theorem ggX9_steps_X9_ownerSeen : GoodIn wsX9_steps wsX9_ownerSeen := goodIn_r _ [37, 12, 1, 46, 47, 48, 49, 50, 51, 52, 53, 54, 55, 56, 57, 58, 59, 60, 61, 62, 63, 64, 65, 66, 67, 68, 69, 70, 71, 72, 73, 74] (by first | exact rfl | decide +kernel) (by decide +kernel)
set_option maxRecDepth 20000 in
theorem gX9_steps_X9_ownerSeen : GoodIn wsX9_steps (wsV RX9 216 RX9 yX9_ownerSeen wsX9_ownerSeen) := goodIn_app (goodIn_r _ [34, 35, 36, 5] (by first | exact rfl | decide +kernel) (by decide +kernel)) ggX9_steps_X9_ownerSeen
set_option maxRecDepth 20000 in
theorem ggX9_steps_X9_paysNow : GoodIn wsX9_steps wsX9_paysNow := goodIn_r _ [41, 1, 34, 35, 36, 5, 37, 12, 2, 3, 4, 6, 42, 43, 44, 45, 11, 46, 47, 48, 49, 50, 51, 52, 53, 54, 55, 56, 57, 58, 59, 60, 61, 62, 63, 64, 65, 66, 67, 68, 69, 70, 71, 72, 73, 74] (by first | exact rfl | decide +kernel) (by decide +kernel)
set_option maxRecDepth 20000 in
theorem gX9_steps_X9_paysNow : GoodIn wsX9_steps (wsV RX9 244 RX9 yX9_paysNow wsX9_paysNow) := goodIn_app (goodIn_r _ [38, 39, 40, 5] (by first | exact rfl | decide +kernel) (by decide +kernel)) ggX9_steps_X9_paysNow
set_option maxRecDepth 20000 in
theorem gdX9_firstShut_0 : decode cX9_firstShut 0 = .ok (.aload_n 0, 1) ∧ decode cX9_firstShut 1 = .ok (.iload_n 1, 1) ∧ decode cX9_firstShut 2 = .ok (.iload_n 2, 1) ∧ decode cX9_firstShut 3 = .ok (.invokevirtual 204, 3) ∧ decode cX9_firstShut 6 = .ok (.istore_n 3, 1) ∧ decode cX9_firstShut 7 = .ok (.iload_n 3, 1) ∧ decode cX9_firstShut 8 = .ok (.ifCond .lt 26, 3) ∧ decode cX9_firstShut 11 = .ok (.aload_n 0, 1) := by decide +kernel
theorem dX9_firstShut_0 : decode cX9_firstShut 0 = .ok (.aload_n 0, 1) := gdX9_firstShut_0.1
theorem dX9_firstShut_1 : decode cX9_firstShut 1 = .ok (.iload_n 1, 1) := gdX9_firstShut_0.2.1
theorem dX9_firstShut_2 : decode cX9_firstShut 2 = .ok (.iload_n 2, 1) := gdX9_firstShut_0.2.2.1
theorem dX9_firstShut_3 : decode cX9_firstShut 3 = .ok (.invokevirtual 204, 3) := gdX9_firstShut_0.2.2.2.1
theorem dX9_firstShut_6 : decode cX9_firstShut 6 = .ok (.istore_n 3, 1) := gdX9_firstShut_0.2.2.2.2.1
theorem dX9_firstShut_7 : decode cX9_firstShut 7 = .ok (.iload_n 3, 1) := gdX9_firstShut_0.2.2.2.2.2.1
theorem dX9_firstShut_8 : decode cX9_firstShut 8 = .ok (.ifCond .lt 26, 3) := gdX9_firstShut_0.2.2.2.2.2.2.1
theorem dX9_firstShut_11 : decode cX9_firstShut 11 = .ok (.aload_n 0, 1) := gdX9_firstShut_0.2.2.2.2.2.2.2
set_option maxRecDepth 20000 in
theorem gdX9_firstShut_12 : decode cX9_firstShut 12 = .ok (.getfield 19, 3) ∧ decode cX9_firstShut 15 = .ok (.iconst 4, 1) ∧ decode cX9_firstShut 16 = .ok (.iload_n 3, 1) ∧ decode cX9_firstShut 17 = .ok (.iadd, 1) ∧ decode cX9_firstShut 18 = .ok (.iaload, 1) ∧ decode cX9_firstShut 19 = .ok (.bipush (-3), 2) ∧ decode cX9_firstShut 21 = .ok (.if_icmp .ne 13, 3) ∧ decode cX9_firstShut 24 = .ok (.aload_n 0, 1) := by decide +kernel
theorem dX9_firstShut_12 : decode cX9_firstShut 12 = .ok (.getfield 19, 3) := gdX9_firstShut_12.1
theorem dX9_firstShut_15 : decode cX9_firstShut 15 = .ok (.iconst 4, 1) := gdX9_firstShut_12.2.1
theorem dX9_firstShut_16 : decode cX9_firstShut 16 = .ok (.iload_n 3, 1) := gdX9_firstShut_12.2.2.1
theorem dX9_firstShut_17 : decode cX9_firstShut 17 = .ok (.iadd, 1) := gdX9_firstShut_12.2.2.2.1
theorem dX9_firstShut_18 : decode cX9_firstShut 18 = .ok (.iaload, 1) := gdX9_firstShut_12.2.2.2.2.1
theorem dX9_firstShut_19 : decode cX9_firstShut 19 = .ok (.bipush (-3), 2) := gdX9_firstShut_12.2.2.2.2.2.1
theorem dX9_firstShut_21 : decode cX9_firstShut 21 = .ok (.if_icmp .ne 13, 3) := gdX9_firstShut_12.2.2.2.2.2.2.1
theorem dX9_firstShut_24 : decode cX9_firstShut 24 = .ok (.aload_n 0, 1) := gdX9_firstShut_12.2.2.2.2.2.2.2
set_option maxRecDepth 20000 in
theorem gdX9_firstShut_25 : decode cX9_firstShut 25 = .ok (.iload_n 3, 1) ∧ decode cX9_firstShut 26 = .ok (.iload_n 2, 1) ∧ decode cX9_firstShut 27 = .ok (.invokevirtual 204, 3) ∧ decode cX9_firstShut 30 = .ok (.istore_n 3, 1) ∧ decode cX9_firstShut 31 = .ok (.goto (-24), 3) ∧ decode cX9_firstShut 34 = .ok (.iload_n 3, 1) ∧ decode cX9_firstShut 35 = .ok (.ireturn, 1) := by decide +kernel
theorem dX9_firstShut_25 : decode cX9_firstShut 25 = .ok (.iload_n 3, 1) := gdX9_firstShut_25.1
theorem dX9_firstShut_26 : decode cX9_firstShut 26 = .ok (.iload_n 2, 1) := gdX9_firstShut_25.2.1
theorem dX9_firstShut_27 : decode cX9_firstShut 27 = .ok (.invokevirtual 204, 3) := gdX9_firstShut_25.2.2.1
theorem dX9_firstShut_30 : decode cX9_firstShut 30 = .ok (.istore_n 3, 1) := gdX9_firstShut_25.2.2.2.1
theorem dX9_firstShut_31 : decode cX9_firstShut 31 = .ok (.goto (-24), 3) := gdX9_firstShut_25.2.2.2.2.1
theorem dX9_firstShut_34 : decode cX9_firstShut 34 = .ok (.iload_n 3, 1) := gdX9_firstShut_25.2.2.2.2.2.1
theorem dX9_firstShut_35 : decode cX9_firstShut 35 = .ok (.ireturn, 1) := gdX9_firstShut_25.2.2.2.2.2.2
set_option maxRecDepth 20000 in
theorem gdX9_isCell_0 : decode cX9_isCell 0 = .ok (.iload_n 1, 1) ∧ decode cX9_isCell 1 = .ok (.i2l, 1) ∧ decode cX9_isCell 2 = .ok (.lconst 0, 1) ∧ decode cX9_isCell 3 = .ok (.ldc2_w 189, 3) ∧ decode cX9_isCell 6 = .ok (.invokestatic 63, 3) ∧ decode cX9_isCell 9 = .ok (.ifCond .eq 22, 3) ∧ decode cX9_isCell 12 = .ok (.aload_n 0, 1) ∧ decode cX9_isCell 13 = .ok (.iload_n 1, 1) := by decide +kernel
theorem dX9_isCell_0 : decode cX9_isCell 0 = .ok (.iload_n 1, 1) := gdX9_isCell_0.1
theorem dX9_isCell_1 : decode cX9_isCell 1 = .ok (.i2l, 1) := gdX9_isCell_0.2.1
theorem dX9_isCell_2 : decode cX9_isCell 2 = .ok (.lconst 0, 1) := gdX9_isCell_0.2.2.1
theorem dX9_isCell_3 : decode cX9_isCell 3 = .ok (.ldc2_w 189, 3) := gdX9_isCell_0.2.2.2.1
theorem dX9_isCell_6 : decode cX9_isCell 6 = .ok (.invokestatic 63, 3) := gdX9_isCell_0.2.2.2.2.1
theorem dX9_isCell_9 : decode cX9_isCell 9 = .ok (.ifCond .eq 22, 3) := gdX9_isCell_0.2.2.2.2.2.1
theorem dX9_isCell_12 : decode cX9_isCell 12 = .ok (.aload_n 0, 1) := gdX9_isCell_0.2.2.2.2.2.2.1
theorem dX9_isCell_13 : decode cX9_isCell 13 = .ok (.iload_n 1, 1) := gdX9_isCell_0.2.2.2.2.2.2.2
set_option maxRecDepth 20000 in
theorem gdX9_isCell_14 : decode cX9_isCell 14 = .ok (.bipush 10, 2) ∧ decode cX9_isCell 16 = .ok (.irem, 1) ∧ decode cX9_isCell 17 = .ok (.iload_n 1, 1) ∧ decode cX9_isCell 18 = .ok (.bipush 10, 2) ∧ decode cX9_isCell 20 = .ok (.idiv, 1) ∧ decode cX9_isCell 21 = .ok (.invokevirtual 191, 3) ∧ decode cX9_isCell 24 = .ok (.ifCond .eq 7, 3) ∧ decode cX9_isCell 27 = .ok (.iconst 1, 1) := by decide +kernel
theorem dX9_isCell_14 : decode cX9_isCell 14 = .ok (.bipush 10, 2) := gdX9_isCell_14.1
theorem dX9_isCell_16 : decode cX9_isCell 16 = .ok (.irem, 1) := gdX9_isCell_14.2.1
theorem dX9_isCell_17 : decode cX9_isCell 17 = .ok (.iload_n 1, 1) := gdX9_isCell_14.2.2.1
theorem dX9_isCell_18 : decode cX9_isCell 18 = .ok (.bipush 10, 2) := gdX9_isCell_14.2.2.2.1
theorem dX9_isCell_20 : decode cX9_isCell 20 = .ok (.idiv, 1) := gdX9_isCell_14.2.2.2.2.1
theorem dX9_isCell_21 : decode cX9_isCell 21 = .ok (.invokevirtual 191, 3) := gdX9_isCell_14.2.2.2.2.2.1
theorem dX9_isCell_24 : decode cX9_isCell 24 = .ok (.ifCond .eq 7, 3) := gdX9_isCell_14.2.2.2.2.2.2.1
theorem dX9_isCell_27 : decode cX9_isCell 27 = .ok (.iconst 1, 1) := gdX9_isCell_14.2.2.2.2.2.2.2
set_option maxRecDepth 20000 in
theorem gdX9_isCell_28 : decode cX9_isCell 28 = .ok (.goto 4, 3) ∧ decode cX9_isCell 31 = .ok (.iconst 0, 1) ∧ decode cX9_isCell 32 = .ok (.ireturn, 1) := by decide +kernel
theorem dX9_isCell_28 : decode cX9_isCell 28 = .ok (.goto 4, 3) := gdX9_isCell_28.1
theorem dX9_isCell_31 : decode cX9_isCell 31 = .ok (.iconst 0, 1) := gdX9_isCell_28.2.1
theorem dX9_isCell_32 : decode cX9_isCell 32 = .ok (.ireturn, 1) := gdX9_isCell_28.2.2
set_option maxRecDepth 20000 in
theorem gdX9_isIn_0 : decode cX9_isIn 0 = .ok (.iload_n 1, 1) ∧ decode cX9_isIn 1 = .ok (.i2l, 1) ∧ decode cX9_isIn 2 = .ok (.lconst 0, 1) ∧ decode cX9_isIn 3 = .ok (.aload_n 0, 1) ∧ decode cX9_isIn 4 = .ok (.getfield 19, 3) ∧ decode cX9_isIn 7 = .ok (.iconst 0, 1) ∧ decode cX9_isIn 8 = .ok (.iaload, 1) ∧ decode cX9_isIn 9 = .ok (.iconst 1, 1) := by decide +kernel
theorem dX9_isIn_0 : decode cX9_isIn 0 = .ok (.iload_n 1, 1) := gdX9_isIn_0.1
theorem dX9_isIn_1 : decode cX9_isIn 1 = .ok (.i2l, 1) := gdX9_isIn_0.2.1
theorem dX9_isIn_2 : decode cX9_isIn 2 = .ok (.lconst 0, 1) := gdX9_isIn_0.2.2.1
theorem dX9_isIn_3 : decode cX9_isIn 3 = .ok (.aload_n 0, 1) := gdX9_isIn_0.2.2.2.1
theorem dX9_isIn_4 : decode cX9_isIn 4 = .ok (.getfield 19, 3) := gdX9_isIn_0.2.2.2.2.1
theorem dX9_isIn_7 : decode cX9_isIn 7 = .ok (.iconst 0, 1) := gdX9_isIn_0.2.2.2.2.2.1
theorem dX9_isIn_8 : decode cX9_isIn 8 = .ok (.iaload, 1) := gdX9_isIn_0.2.2.2.2.2.2.1
theorem dX9_isIn_9 : decode cX9_isIn 9 = .ok (.iconst 1, 1) := gdX9_isIn_0.2.2.2.2.2.2.2
set_option maxRecDepth 20000 in
theorem gdX9_isIn_10 : decode cX9_isIn 10 = .ok (.isub, 1) ∧ decode cX9_isIn 11 = .ok (.i2l, 1) ∧ decode cX9_isIn 12 = .ok (.invokestatic 63, 3) ∧ decode cX9_isIn 15 = .ok (.ifCond .eq 25, 3) ∧ decode cX9_isIn 18 = .ok (.iload_n 2, 1) ∧ decode cX9_isIn 19 = .ok (.i2l, 1) ∧ decode cX9_isIn 20 = .ok (.lconst 0, 1) ∧ decode cX9_isIn 21 = .ok (.aload_n 0, 1) := by decide +kernel
theorem dX9_isIn_10 : decode cX9_isIn 10 = .ok (.isub, 1) := gdX9_isIn_10.1
theorem dX9_isIn_11 : decode cX9_isIn 11 = .ok (.i2l, 1) := gdX9_isIn_10.2.1
theorem dX9_isIn_12 : decode cX9_isIn 12 = .ok (.invokestatic 63, 3) := gdX9_isIn_10.2.2.1
theorem dX9_isIn_15 : decode cX9_isIn 15 = .ok (.ifCond .eq 25, 3) := gdX9_isIn_10.2.2.2.1
theorem dX9_isIn_18 : decode cX9_isIn 18 = .ok (.iload_n 2, 1) := gdX9_isIn_10.2.2.2.2.1
theorem dX9_isIn_19 : decode cX9_isIn 19 = .ok (.i2l, 1) := gdX9_isIn_10.2.2.2.2.2.1
theorem dX9_isIn_20 : decode cX9_isIn 20 = .ok (.lconst 0, 1) := gdX9_isIn_10.2.2.2.2.2.2.1
theorem dX9_isIn_21 : decode cX9_isIn 21 = .ok (.aload_n 0, 1) := gdX9_isIn_10.2.2.2.2.2.2.2
set_option maxRecDepth 20000 in
theorem gdX9_isIn_22 : decode cX9_isIn 22 = .ok (.getfield 19, 3) ∧ decode cX9_isIn 25 = .ok (.iconst 1, 1) ∧ decode cX9_isIn 26 = .ok (.iaload, 1) ∧ decode cX9_isIn 27 = .ok (.iconst 1, 1) ∧ decode cX9_isIn 28 = .ok (.isub, 1) ∧ decode cX9_isIn 29 = .ok (.i2l, 1) ∧ decode cX9_isIn 30 = .ok (.invokestatic 63, 3) ∧ decode cX9_isIn 33 = .ok (.ifCond .eq 7, 3) := by decide +kernel
theorem dX9_isIn_22 : decode cX9_isIn 22 = .ok (.getfield 19, 3) := gdX9_isIn_22.1
theorem dX9_isIn_25 : decode cX9_isIn 25 = .ok (.iconst 1, 1) := gdX9_isIn_22.2.1
theorem dX9_isIn_26 : decode cX9_isIn 26 = .ok (.iaload, 1) := gdX9_isIn_22.2.2.1
theorem dX9_isIn_27 : decode cX9_isIn 27 = .ok (.iconst 1, 1) := gdX9_isIn_22.2.2.2.1
theorem dX9_isIn_28 : decode cX9_isIn 28 = .ok (.isub, 1) := gdX9_isIn_22.2.2.2.2.1
theorem dX9_isIn_29 : decode cX9_isIn 29 = .ok (.i2l, 1) := gdX9_isIn_22.2.2.2.2.2.1
theorem dX9_isIn_30 : decode cX9_isIn 30 = .ok (.invokestatic 63, 3) := gdX9_isIn_22.2.2.2.2.2.2.1
theorem dX9_isIn_33 : decode cX9_isIn 33 = .ok (.ifCond .eq 7, 3) := gdX9_isIn_22.2.2.2.2.2.2.2
set_option maxRecDepth 20000 in
theorem gdX9_isIn_36 : decode cX9_isIn 36 = .ok (.iconst 1, 1) ∧ decode cX9_isIn 37 = .ok (.goto 4, 3) ∧ decode cX9_isIn 40 = .ok (.iconst 0, 1) ∧ decode cX9_isIn 41 = .ok (.ireturn, 1) := by decide +kernel
theorem dX9_isIn_36 : decode cX9_isIn 36 = .ok (.iconst 1, 1) := gdX9_isIn_36.1
theorem dX9_isIn_37 : decode cX9_isIn 37 = .ok (.goto 4, 3) := gdX9_isIn_36.2.1
theorem dX9_isIn_40 : decode cX9_isIn 40 = .ok (.iconst 0, 1) := gdX9_isIn_36.2.2.1
theorem dX9_isIn_41 : decode cX9_isIn 41 = .ok (.ireturn, 1) := gdX9_isIn_36.2.2.2
set_option maxRecDepth 20000 in
theorem gdX9_isOne_0 : decode cX9_isOne 0 = .ok (.iload_n 1, 1) ∧ decode cX9_isOne 1 = .ok (.i2l, 1) ∧ decode cX9_isOne 2 = .ok (.lconst 0, 1) ∧ decode cX9_isOne 3 = .ok (.aload_n 0, 1) ∧ decode cX9_isOne 4 = .ok (.getfield 19, 3) ∧ decode cX9_isOne 7 = .ok (.iconst 3, 1) ∧ decode cX9_isOne 8 = .ok (.iaload, 1) ∧ decode cX9_isOne 9 = .ok (.iconst 1, 1) := by decide +kernel
theorem dX9_isOne_0 : decode cX9_isOne 0 = .ok (.iload_n 1, 1) := gdX9_isOne_0.1
theorem dX9_isOne_1 : decode cX9_isOne 1 = .ok (.i2l, 1) := gdX9_isOne_0.2.1
theorem dX9_isOne_2 : decode cX9_isOne 2 = .ok (.lconst 0, 1) := gdX9_isOne_0.2.2.1
theorem dX9_isOne_3 : decode cX9_isOne 3 = .ok (.aload_n 0, 1) := gdX9_isOne_0.2.2.2.1
theorem dX9_isOne_4 : decode cX9_isOne 4 = .ok (.getfield 19, 3) := gdX9_isOne_0.2.2.2.2.1
theorem dX9_isOne_7 : decode cX9_isOne 7 = .ok (.iconst 3, 1) := gdX9_isOne_0.2.2.2.2.2.1
theorem dX9_isOne_8 : decode cX9_isOne 8 = .ok (.iaload, 1) := gdX9_isOne_0.2.2.2.2.2.2.1
theorem dX9_isOne_9 : decode cX9_isOne 9 = .ok (.iconst 1, 1) := gdX9_isOne_0.2.2.2.2.2.2.2
set_option maxRecDepth 20000 in
theorem gdX9_isOne_10 : decode cX9_isOne 10 = .ok (.isub, 1) ∧ decode cX9_isOne 11 = .ok (.i2l, 1) ∧ decode cX9_isOne 12 = .ok (.invokestatic 63, 3) ∧ decode cX9_isOne 15 = .ok (.ireturn, 1) := by decide +kernel
theorem dX9_isOne_10 : decode cX9_isOne 10 = .ok (.isub, 1) := gdX9_isOne_10.1
theorem dX9_isOne_11 : decode cX9_isOne 11 = .ok (.i2l, 1) := gdX9_isOne_10.2.1
theorem dX9_isOne_12 : decode cX9_isOne 12 = .ok (.invokestatic 63, 3) := gdX9_isOne_10.2.2.1
theorem dX9_isOne_15 : decode cX9_isOne 15 = .ok (.ireturn, 1) := gdX9_isOne_10.2.2.2
set_option maxRecDepth 20000 in
theorem gdX9_isOpen_0 : decode cX9_isOpen 0 = .ok (.aload_n 0, 1) ∧ decode cX9_isOpen 1 = .ok (.iload_n 1, 1) ∧ decode cX9_isOpen 2 = .ok (.invokevirtual 195, 3) ∧ decode cX9_isOpen 5 = .ok (.ifCond .eq 20, 3) ∧ decode cX9_isOpen 8 = .ok (.aload_n 0, 1) ∧ decode cX9_isOpen 9 = .ok (.getfield 19, 3) ∧ decode cX9_isOpen 12 = .ok (.iconst 4, 1) ∧ decode cX9_isOpen 13 = .ok (.iload_n 1, 1) := by decide +kernel
theorem dX9_isOpen_0 : decode cX9_isOpen 0 = .ok (.aload_n 0, 1) := gdX9_isOpen_0.1
theorem dX9_isOpen_1 : decode cX9_isOpen 1 = .ok (.iload_n 1, 1) := gdX9_isOpen_0.2.1
theorem dX9_isOpen_2 : decode cX9_isOpen 2 = .ok (.invokevirtual 195, 3) := gdX9_isOpen_0.2.2.1
theorem dX9_isOpen_5 : decode cX9_isOpen 5 = .ok (.ifCond .eq 20, 3) := gdX9_isOpen_0.2.2.2.1
theorem dX9_isOpen_8 : decode cX9_isOpen 8 = .ok (.aload_n 0, 1) := gdX9_isOpen_0.2.2.2.2.1
theorem dX9_isOpen_9 : decode cX9_isOpen 9 = .ok (.getfield 19, 3) := gdX9_isOpen_0.2.2.2.2.2.1
theorem dX9_isOpen_12 : decode cX9_isOpen 12 = .ok (.iconst 4, 1) := gdX9_isOpen_0.2.2.2.2.2.2.1
theorem dX9_isOpen_13 : decode cX9_isOpen 13 = .ok (.iload_n 1, 1) := gdX9_isOpen_0.2.2.2.2.2.2.2
set_option maxRecDepth 20000 in
theorem gdX9_isOpen_14 : decode cX9_isOpen 14 = .ok (.iadd, 1) ∧ decode cX9_isOpen 15 = .ok (.iaload, 1) ∧ decode cX9_isOpen 16 = .ok (.bipush (-3), 2) ∧ decode cX9_isOpen 18 = .ok (.if_icmp .ne 7, 3) ∧ decode cX9_isOpen 21 = .ok (.iconst 1, 1) ∧ decode cX9_isOpen 22 = .ok (.goto 4, 3) ∧ decode cX9_isOpen 25 = .ok (.iconst 0, 1) ∧ decode cX9_isOpen 26 = .ok (.ireturn, 1) := by decide +kernel
theorem dX9_isOpen_14 : decode cX9_isOpen 14 = .ok (.iadd, 1) := gdX9_isOpen_14.1
theorem dX9_isOpen_15 : decode cX9_isOpen 15 = .ok (.iaload, 1) := gdX9_isOpen_14.2.1
theorem dX9_isOpen_16 : decode cX9_isOpen 16 = .ok (.bipush (-3), 2) := gdX9_isOpen_14.2.2.1
theorem dX9_isOpen_18 : decode cX9_isOpen 18 = .ok (.if_icmp .ne 7, 3) := gdX9_isOpen_14.2.2.2.1
theorem dX9_isOpen_21 : decode cX9_isOpen 21 = .ok (.iconst 1, 1) := gdX9_isOpen_14.2.2.2.2.1
theorem dX9_isOpen_22 : decode cX9_isOpen 22 = .ok (.goto 4, 3) := gdX9_isOpen_14.2.2.2.2.2.1
theorem dX9_isOpen_25 : decode cX9_isOpen 25 = .ok (.iconst 0, 1) := gdX9_isOpen_14.2.2.2.2.2.2.1
theorem dX9_isOpen_26 : decode cX9_isOpen 26 = .ok (.ireturn, 1) := gdX9_isOpen_14.2.2.2.2.2.2.2
set_option maxRecDepth 20000 in
theorem gdX9_lookFrom_0 : decode cX9_lookFrom 0 = .ok (.aload_n 0, 1) ∧ decode cX9_lookFrom 1 = .ok (.iconst 0, 1) ∧ decode cX9_lookFrom 2 = .ok (.putfield 207, 3) ∧ decode cX9_lookFrom 5 = .ok (.aload_n 0, 1) ∧ decode cX9_lookFrom 6 = .ok (.aload_n 0, 1) ∧ decode cX9_lookFrom 7 = .ok (.iload_n 1, 1) ∧ decode cX9_lookFrom 8 = .ok (.iload_n 2, 1) ∧ decode cX9_lookFrom 9 = .ok (.invokevirtual 210, 3) := by decide +kernel
theorem dX9_lookFrom_0 : decode cX9_lookFrom 0 = .ok (.aload_n 0, 1) := gdX9_lookFrom_0.1
theorem dX9_lookFrom_1 : decode cX9_lookFrom 1 = .ok (.iconst 0, 1) := gdX9_lookFrom_0.2.1
theorem dX9_lookFrom_2 : decode cX9_lookFrom 2 = .ok (.putfield 207, 3) := gdX9_lookFrom_0.2.2.1
theorem dX9_lookFrom_5 : decode cX9_lookFrom 5 = .ok (.aload_n 0, 1) := gdX9_lookFrom_0.2.2.2.1
theorem dX9_lookFrom_6 : decode cX9_lookFrom 6 = .ok (.aload_n 0, 1) := gdX9_lookFrom_0.2.2.2.2.1
theorem dX9_lookFrom_7 : decode cX9_lookFrom 7 = .ok (.iload_n 1, 1) := gdX9_lookFrom_0.2.2.2.2.2.1
theorem dX9_lookFrom_8 : decode cX9_lookFrom 8 = .ok (.iload_n 2, 1) := gdX9_lookFrom_0.2.2.2.2.2.2.1
theorem dX9_lookFrom_9 : decode cX9_lookFrom 9 = .ok (.invokevirtual 210, 3) := gdX9_lookFrom_0.2.2.2.2.2.2.2
set_option maxRecDepth 20000 in
theorem gdX9_lookFrom_12 : decode cX9_lookFrom 12 = .ok (.putfield 213, 3) ∧ decode cX9_lookFrom 15 = .ok (.aload_n 0, 1) ∧ decode cX9_lookFrom 16 = .ok (.getfield 213, 3) ∧ decode cX9_lookFrom 19 = .ok (.ifCond .lt 70, 3) ∧ decode cX9_lookFrom 22 = .ok (.aload_n 0, 1) ∧ decode cX9_lookFrom 23 = .ok (.getfield 19, 3) ∧ decode cX9_lookFrom 26 = .ok (.iconst 4, 1) ∧ decode cX9_lookFrom 27 = .ok (.aload_n 0, 1) := by decide +kernel
theorem dX9_lookFrom_12 : decode cX9_lookFrom 12 = .ok (.putfield 213, 3) := gdX9_lookFrom_12.1
theorem dX9_lookFrom_15 : decode cX9_lookFrom 15 = .ok (.aload_n 0, 1) := gdX9_lookFrom_12.2.1
theorem dX9_lookFrom_16 : decode cX9_lookFrom 16 = .ok (.getfield 213, 3) := gdX9_lookFrom_12.2.2.1
theorem dX9_lookFrom_19 : decode cX9_lookFrom 19 = .ok (.ifCond .lt 70, 3) := gdX9_lookFrom_12.2.2.2.1
theorem dX9_lookFrom_22 : decode cX9_lookFrom 22 = .ok (.aload_n 0, 1) := gdX9_lookFrom_12.2.2.2.2.1
theorem dX9_lookFrom_23 : decode cX9_lookFrom 23 = .ok (.getfield 19, 3) := gdX9_lookFrom_12.2.2.2.2.2.1
theorem dX9_lookFrom_26 : decode cX9_lookFrom 26 = .ok (.iconst 4, 1) := gdX9_lookFrom_12.2.2.2.2.2.2.1
theorem dX9_lookFrom_27 : decode cX9_lookFrom 27 = .ok (.aload_n 0, 1) := gdX9_lookFrom_12.2.2.2.2.2.2.2
set_option maxRecDepth 20000 in
theorem gdX9_lookFrom_28 : decode cX9_lookFrom 28 = .ok (.getfield 213, 3) ∧ decode cX9_lookFrom 31 = .ok (.iadd, 1) ∧ decode cX9_lookFrom 32 = .ok (.iaload, 1) ∧ decode cX9_lookFrom 33 = .ok (.iconst (-1), 1) ∧ decode cX9_lookFrom 34 = .ok (.if_icmp .ne 55, 3) ∧ decode cX9_lookFrom 37 = .ok (.aload_n 0, 1) ∧ decode cX9_lookFrom 38 = .ok (.iconst 1, 1) ∧ decode cX9_lookFrom 39 = .ok (.putfield 207, 3) := by decide +kernel
theorem dX9_lookFrom_28 : decode cX9_lookFrom 28 = .ok (.getfield 213, 3) := gdX9_lookFrom_28.1
theorem dX9_lookFrom_31 : decode cX9_lookFrom 31 = .ok (.iadd, 1) := gdX9_lookFrom_28.2.1
theorem dX9_lookFrom_32 : decode cX9_lookFrom 32 = .ok (.iaload, 1) := gdX9_lookFrom_28.2.2.1
theorem dX9_lookFrom_33 : decode cX9_lookFrom 33 = .ok (.iconst (-1), 1) := gdX9_lookFrom_28.2.2.2.1
theorem dX9_lookFrom_34 : decode cX9_lookFrom 34 = .ok (.if_icmp .ne 55, 3) := gdX9_lookFrom_28.2.2.2.2.1
theorem dX9_lookFrom_37 : decode cX9_lookFrom 37 = .ok (.aload_n 0, 1) := gdX9_lookFrom_28.2.2.2.2.2.1
theorem dX9_lookFrom_38 : decode cX9_lookFrom 38 = .ok (.iconst 1, 1) := gdX9_lookFrom_28.2.2.2.2.2.2.1
theorem dX9_lookFrom_39 : decode cX9_lookFrom 39 = .ok (.putfield 207, 3) := gdX9_lookFrom_28.2.2.2.2.2.2.2
set_option maxRecDepth 20000 in
theorem gdX9_lookFrom_42 : decode cX9_lookFrom 42 = .ok (.aload_n 0, 1) ∧ decode cX9_lookFrom 43 = .ok (.aload_n 0, 1) ∧ decode cX9_lookFrom 44 = .ok (.iload_n 1, 1) ∧ decode cX9_lookFrom 45 = .ok (.iload_n 2, 1) ∧ decode cX9_lookFrom 46 = .ok (.iconst 4, 1) ∧ decode cX9_lookFrom 47 = .ok (.iadd, 1) ∧ decode cX9_lookFrom 48 = .ok (.bipush 8, 2) ∧ decode cX9_lookFrom 50 = .ok (.irem, 1) := by decide +kernel
theorem dX9_lookFrom_42 : decode cX9_lookFrom 42 = .ok (.aload_n 0, 1) := gdX9_lookFrom_42.1
theorem dX9_lookFrom_43 : decode cX9_lookFrom 43 = .ok (.aload_n 0, 1) := gdX9_lookFrom_42.2.1
theorem dX9_lookFrom_44 : decode cX9_lookFrom 44 = .ok (.iload_n 1, 1) := gdX9_lookFrom_42.2.2.1
theorem dX9_lookFrom_45 : decode cX9_lookFrom 45 = .ok (.iload_n 2, 1) := gdX9_lookFrom_42.2.2.2.1
theorem dX9_lookFrom_46 : decode cX9_lookFrom 46 = .ok (.iconst 4, 1) := gdX9_lookFrom_42.2.2.2.2.1
theorem dX9_lookFrom_47 : decode cX9_lookFrom 47 = .ok (.iadd, 1) := gdX9_lookFrom_42.2.2.2.2.2.1
theorem dX9_lookFrom_48 : decode cX9_lookFrom 48 = .ok (.bipush 8, 2) := gdX9_lookFrom_42.2.2.2.2.2.2.1
theorem dX9_lookFrom_50 : decode cX9_lookFrom 50 = .ok (.irem, 1) := gdX9_lookFrom_42.2.2.2.2.2.2.2
set_option maxRecDepth 20000 in
theorem gdX9_lookFrom_51 : decode cX9_lookFrom 51 = .ok (.invokevirtual 210, 3) ∧ decode cX9_lookFrom 54 = .ok (.putfield 213, 3) ∧ decode cX9_lookFrom 57 = .ok (.aload_n 0, 1) ∧ decode cX9_lookFrom 58 = .ok (.getfield 213, 3) ∧ decode cX9_lookFrom 61 = .ok (.ifCond .lt 28, 3) ∧ decode cX9_lookFrom 64 = .ok (.aload_n 0, 1) ∧ decode cX9_lookFrom 65 = .ok (.getfield 19, 3) ∧ decode cX9_lookFrom 68 = .ok (.iconst 4, 1) := by decide +kernel
theorem dX9_lookFrom_51 : decode cX9_lookFrom 51 = .ok (.invokevirtual 210, 3) := gdX9_lookFrom_51.1
theorem dX9_lookFrom_54 : decode cX9_lookFrom 54 = .ok (.putfield 213, 3) := gdX9_lookFrom_51.2.1
theorem dX9_lookFrom_57 : decode cX9_lookFrom 57 = .ok (.aload_n 0, 1) := gdX9_lookFrom_51.2.2.1
theorem dX9_lookFrom_58 : decode cX9_lookFrom 58 = .ok (.getfield 213, 3) := gdX9_lookFrom_51.2.2.2.1
theorem dX9_lookFrom_61 : decode cX9_lookFrom 61 = .ok (.ifCond .lt 28, 3) := gdX9_lookFrom_51.2.2.2.2.1
theorem dX9_lookFrom_64 : decode cX9_lookFrom 64 = .ok (.aload_n 0, 1) := gdX9_lookFrom_51.2.2.2.2.2.1
theorem dX9_lookFrom_65 : decode cX9_lookFrom 65 = .ok (.getfield 19, 3) := gdX9_lookFrom_51.2.2.2.2.2.2.1
theorem dX9_lookFrom_68 : decode cX9_lookFrom 68 = .ok (.iconst 4, 1) := gdX9_lookFrom_51.2.2.2.2.2.2.2
set_option maxRecDepth 20000 in
theorem gdX9_lookFrom_69 : decode cX9_lookFrom 69 = .ok (.aload_n 0, 1) ∧ decode cX9_lookFrom 70 = .ok (.getfield 213, 3) ∧ decode cX9_lookFrom 73 = .ok (.iadd, 1) ∧ decode cX9_lookFrom 74 = .ok (.iaload, 1) ∧ decode cX9_lookFrom 75 = .ok (.iconst (-1), 1) ∧ decode cX9_lookFrom 76 = .ok (.if_icmp .ne 13, 3) ∧ decode cX9_lookFrom 79 = .ok (.aload_n 0, 1) ∧ decode cX9_lookFrom 80 = .ok (.iconst 2, 1) := by decide +kernel
theorem dX9_lookFrom_69 : decode cX9_lookFrom 69 = .ok (.aload_n 0, 1) := gdX9_lookFrom_69.1
theorem dX9_lookFrom_70 : decode cX9_lookFrom 70 = .ok (.getfield 213, 3) := gdX9_lookFrom_69.2.1
theorem dX9_lookFrom_73 : decode cX9_lookFrom 73 = .ok (.iadd, 1) := gdX9_lookFrom_69.2.2.1
theorem dX9_lookFrom_74 : decode cX9_lookFrom 74 = .ok (.iaload, 1) := gdX9_lookFrom_69.2.2.2.1
theorem dX9_lookFrom_75 : decode cX9_lookFrom 75 = .ok (.iconst (-1), 1) := gdX9_lookFrom_69.2.2.2.2.1
theorem dX9_lookFrom_76 : decode cX9_lookFrom 76 = .ok (.if_icmp .ne 13, 3) := gdX9_lookFrom_69.2.2.2.2.2.1
theorem dX9_lookFrom_79 : decode cX9_lookFrom 79 = .ok (.aload_n 0, 1) := gdX9_lookFrom_69.2.2.2.2.2.2.1
theorem dX9_lookFrom_80 : decode cX9_lookFrom 80 = .ok (.iconst 2, 1) := gdX9_lookFrom_69.2.2.2.2.2.2.2
set_option maxRecDepth 20000 in
theorem gdX9_lookFrom_81 : decode cX9_lookFrom 81 = .ok (.putfield 207, 3) ∧ decode cX9_lookFrom 84 = .ok (.aload_n 0, 1) ∧ decode cX9_lookFrom 85 = .ok (.iconst (-1), 1) ∧ decode cX9_lookFrom 86 = .ok (.putfield 213, 3) ∧ decode cX9_lookFrom 89 = .ok (.return_, 1) := by decide +kernel
theorem dX9_lookFrom_81 : decode cX9_lookFrom 81 = .ok (.putfield 207, 3) := gdX9_lookFrom_81.1
theorem dX9_lookFrom_84 : decode cX9_lookFrom 84 = .ok (.aload_n 0, 1) := gdX9_lookFrom_81.2.1
theorem dX9_lookFrom_85 : decode cX9_lookFrom 85 = .ok (.iconst (-1), 1) := gdX9_lookFrom_81.2.2.1
theorem dX9_lookFrom_86 : decode cX9_lookFrom 86 = .ok (.putfield 213, 3) := gdX9_lookFrom_81.2.2.2.1
theorem dX9_lookFrom_89 : decode cX9_lookFrom 89 = .ok (.return_, 1) := gdX9_lookFrom_81.2.2.2.2
set_option maxRecDepth 20000 in
theorem gdX9_mayGo_0 : decode cX9_mayGo 0 = .ok (.iload_n 2, 1) ∧ decode cX9_mayGo 1 = .ok (.i2l, 1) ∧ decode cX9_mayGo 2 = .ok (.lconst 0, 1) ∧ decode cX9_mayGo 3 = .ok (.aload_n 0, 1) ∧ decode cX9_mayGo 4 = .ok (.iload_n 1, 1) ∧ decode cX9_mayGo 5 = .ok (.iconst 2, 1) ∧ decode cX9_mayGo 6 = .ok (.invokevirtual 239, 3) ∧ decode cX9_mayGo 9 = .ok (.iconst 2, 1) := by decide +kernel
theorem dX9_mayGo_0 : decode cX9_mayGo 0 = .ok (.iload_n 2, 1) := gdX9_mayGo_0.1
theorem dX9_mayGo_1 : decode cX9_mayGo 1 = .ok (.i2l, 1) := gdX9_mayGo_0.2.1
theorem dX9_mayGo_2 : decode cX9_mayGo 2 = .ok (.lconst 0, 1) := gdX9_mayGo_0.2.2.1
theorem dX9_mayGo_3 : decode cX9_mayGo 3 = .ok (.aload_n 0, 1) := gdX9_mayGo_0.2.2.2.1
theorem dX9_mayGo_4 : decode cX9_mayGo 4 = .ok (.iload_n 1, 1) := gdX9_mayGo_0.2.2.2.2.1
theorem dX9_mayGo_5 : decode cX9_mayGo 5 = .ok (.iconst 2, 1) := gdX9_mayGo_0.2.2.2.2.2.1
theorem dX9_mayGo_6 : decode cX9_mayGo 6 = .ok (.invokevirtual 239, 3) := gdX9_mayGo_0.2.2.2.2.2.2.1
theorem dX9_mayGo_9 : decode cX9_mayGo 9 = .ok (.iconst 2, 1) := gdX9_mayGo_0.2.2.2.2.2.2.2
set_option maxRecDepth 20000 in
theorem gdX9_mayGo_10 : decode cX9_mayGo 10 = .ok (.if_icmp .ne 9, 3) ∧ decode cX9_mayGo 13 = .ok (.ldc2_w 242, 3) ∧ decode cX9_mayGo 16 = .ok (.goto 6, 3) ∧ decode cX9_mayGo 19 = .ok (.ldc2_w 61, 3) ∧ decode cX9_mayGo 22 = .ok (.invokestatic 63, 3) ∧ decode cX9_mayGo 25 = .ok (.ireturn, 1) := by decide +kernel
theorem dX9_mayGo_10 : decode cX9_mayGo 10 = .ok (.if_icmp .ne 9, 3) := gdX9_mayGo_10.1
theorem dX9_mayGo_13 : decode cX9_mayGo 13 = .ok (.ldc2_w 242, 3) := gdX9_mayGo_10.2.1
theorem dX9_mayGo_16 : decode cX9_mayGo 16 = .ok (.goto 6, 3) := gdX9_mayGo_10.2.2.1
theorem dX9_mayGo_19 : decode cX9_mayGo 19 = .ok (.ldc2_w 61, 3) := gdX9_mayGo_10.2.2.2.1
theorem dX9_mayGo_22 : decode cX9_mayGo 22 = .ok (.invokestatic 63, 3) := gdX9_mayGo_10.2.2.2.2.1
theorem dX9_mayGo_25 : decode cX9_mayGo 25 = .ok (.ireturn, 1) := gdX9_mayGo_10.2.2.2.2.2
set_option maxRecDepth 20000 in
theorem gdX9_nextTo_0 : decode cX9_nextTo 0 = .ok (.iload_n 1, 1) ∧ decode cX9_nextTo 1 = .ok (.bipush 10, 2) ∧ decode cX9_nextTo 3 = .ok (.irem, 1) ∧ decode cX9_nextTo 4 = .ok (.iload_n 2, 1) ∧ decode cX9_nextTo 5 = .ok (.invokestatic 198, 3) ∧ decode cX9_nextTo 8 = .ok (.iadd, 1) ∧ decode cX9_nextTo 9 = .ok (.istore_n 3, 1) ∧ decode cX9_nextTo 10 = .ok (.iload_n 1, 1) := by decide +kernel
theorem dX9_nextTo_0 : decode cX9_nextTo 0 = .ok (.iload_n 1, 1) := gdX9_nextTo_0.1
theorem dX9_nextTo_1 : decode cX9_nextTo 1 = .ok (.bipush 10, 2) := gdX9_nextTo_0.2.1
theorem dX9_nextTo_3 : decode cX9_nextTo 3 = .ok (.irem, 1) := gdX9_nextTo_0.2.2.1
theorem dX9_nextTo_4 : decode cX9_nextTo 4 = .ok (.iload_n 2, 1) := gdX9_nextTo_0.2.2.2.1
theorem dX9_nextTo_5 : decode cX9_nextTo 5 = .ok (.invokestatic 198, 3) := gdX9_nextTo_0.2.2.2.2.1
theorem dX9_nextTo_8 : decode cX9_nextTo 8 = .ok (.iadd, 1) := gdX9_nextTo_0.2.2.2.2.2.1
theorem dX9_nextTo_9 : decode cX9_nextTo 9 = .ok (.istore_n 3, 1) := gdX9_nextTo_0.2.2.2.2.2.2.1
theorem dX9_nextTo_10 : decode cX9_nextTo 10 = .ok (.iload_n 1, 1) := gdX9_nextTo_0.2.2.2.2.2.2.2
set_option maxRecDepth 20000 in
theorem gdX9_nextTo_11 : decode cX9_nextTo 11 = .ok (.bipush 10, 2) ∧ decode cX9_nextTo 13 = .ok (.idiv, 1) ∧ decode cX9_nextTo 14 = .ok (.iload_n 2, 1) ∧ decode cX9_nextTo 15 = .ok (.invokestatic 201, 3) ∧ decode cX9_nextTo 18 = .ok (.iadd, 1) ∧ decode cX9_nextTo 19 = .ok (.istore 4, 2) ∧ decode cX9_nextTo 21 = .ok (.aload_n 0, 1) ∧ decode cX9_nextTo 22 = .ok (.iload_n 3, 1) := by decide +kernel
theorem dX9_nextTo_11 : decode cX9_nextTo 11 = .ok (.bipush 10, 2) := gdX9_nextTo_11.1
theorem dX9_nextTo_13 : decode cX9_nextTo 13 = .ok (.idiv, 1) := gdX9_nextTo_11.2.1
theorem dX9_nextTo_14 : decode cX9_nextTo 14 = .ok (.iload_n 2, 1) := gdX9_nextTo_11.2.2.1
theorem dX9_nextTo_15 : decode cX9_nextTo 15 = .ok (.invokestatic 201, 3) := gdX9_nextTo_11.2.2.2.1
theorem dX9_nextTo_18 : decode cX9_nextTo 18 = .ok (.iadd, 1) := gdX9_nextTo_11.2.2.2.2.1
theorem dX9_nextTo_19 : decode cX9_nextTo 19 = .ok (.istore 4, 2) := gdX9_nextTo_11.2.2.2.2.2.1
theorem dX9_nextTo_21 : decode cX9_nextTo 21 = .ok (.aload_n 0, 1) := gdX9_nextTo_11.2.2.2.2.2.2.1
theorem dX9_nextTo_22 : decode cX9_nextTo 22 = .ok (.iload_n 3, 1) := gdX9_nextTo_11.2.2.2.2.2.2.2
set_option maxRecDepth 20000 in
theorem gdX9_nextTo_23 : decode cX9_nextTo 23 = .ok (.iload 4, 2) ∧ decode cX9_nextTo 25 = .ok (.invokevirtual 191, 3) ∧ decode cX9_nextTo 28 = .ok (.ifCond .eq 13, 3) ∧ decode cX9_nextTo 31 = .ok (.iload_n 3, 1) ∧ decode cX9_nextTo 32 = .ok (.bipush 10, 2) ∧ decode cX9_nextTo 34 = .ok (.iload 4, 2) ∧ decode cX9_nextTo 36 = .ok (.imul, 1) ∧ decode cX9_nextTo 37 = .ok (.iadd, 1) := by decide +kernel
theorem dX9_nextTo_23 : decode cX9_nextTo 23 = .ok (.iload 4, 2) := gdX9_nextTo_23.1
theorem dX9_nextTo_25 : decode cX9_nextTo 25 = .ok (.invokevirtual 191, 3) := gdX9_nextTo_23.2.1
theorem dX9_nextTo_28 : decode cX9_nextTo 28 = .ok (.ifCond .eq 13, 3) := gdX9_nextTo_23.2.2.1
theorem dX9_nextTo_31 : decode cX9_nextTo 31 = .ok (.iload_n 3, 1) := gdX9_nextTo_23.2.2.2.1
theorem dX9_nextTo_32 : decode cX9_nextTo 32 = .ok (.bipush 10, 2) := gdX9_nextTo_23.2.2.2.2.1
theorem dX9_nextTo_34 : decode cX9_nextTo 34 = .ok (.iload 4, 2) := gdX9_nextTo_23.2.2.2.2.2.1
theorem dX9_nextTo_36 : decode cX9_nextTo 36 = .ok (.imul, 1) := gdX9_nextTo_23.2.2.2.2.2.2.1
theorem dX9_nextTo_37 : decode cX9_nextTo 37 = .ok (.iadd, 1) := gdX9_nextTo_23.2.2.2.2.2.2.2
set_option maxRecDepth 20000 in
theorem gdX9_nextTo_38 : decode cX9_nextTo 38 = .ok (.goto 4, 3) ∧ decode cX9_nextTo 41 = .ok (.iconst (-1), 1) ∧ decode cX9_nextTo 42 = .ok (.ireturn, 1) := by decide +kernel
theorem dX9_nextTo_38 : decode cX9_nextTo 38 = .ok (.goto 4, 3) := gdX9_nextTo_38.1
theorem dX9_nextTo_41 : decode cX9_nextTo 41 = .ok (.iconst (-1), 1) := gdX9_nextTo_38.2.1
theorem dX9_nextTo_42 : decode cX9_nextTo 42 = .ok (.ireturn, 1) := gdX9_nextTo_38.2.2
set_option maxRecDepth 20000 in
theorem gdX9_of_0 : decode cX9_of 0 = .ok (.aload_n 0, 1) ∧ decode cX9_of 1 = .ok (.getfield 19, 3) ∧ decode cX9_of 4 = .ok (.bipush 96, 2) ∧ decode cX9_of 6 = .ok (.iconst 4, 1) ∧ decode cX9_of 7 = .ok (.iload_n 1, 1) ∧ decode cX9_of 8 = .ok (.imul, 1) ∧ decode cX9_of 9 = .ok (.iadd, 1) ∧ decode cX9_of 10 = .ok (.iload_n 2, 1) := by decide +kernel
theorem dX9_of_0 : decode cX9_of 0 = .ok (.aload_n 0, 1) := gdX9_of_0.1
theorem dX9_of_1 : decode cX9_of 1 = .ok (.getfield 19, 3) := gdX9_of_0.2.1
theorem dX9_of_4 : decode cX9_of 4 = .ok (.bipush 96, 2) := gdX9_of_0.2.2.1
theorem dX9_of_6 : decode cX9_of 6 = .ok (.iconst 4, 1) := gdX9_of_0.2.2.2.1
theorem dX9_of_7 : decode cX9_of 7 = .ok (.iload_n 1, 1) := gdX9_of_0.2.2.2.2.1
theorem dX9_of_8 : decode cX9_of 8 = .ok (.imul, 1) := gdX9_of_0.2.2.2.2.2.1
theorem dX9_of_9 : decode cX9_of 9 = .ok (.iadd, 1) := gdX9_of_0.2.2.2.2.2.2.1
theorem dX9_of_10 : decode cX9_of 10 = .ok (.iload_n 2, 1) := gdX9_of_0.2.2.2.2.2.2.2
set_option maxRecDepth 20000 in
theorem gdX9_of_11 : decode cX9_of 11 = .ok (.iadd, 1) ∧ decode cX9_of 12 = .ok (.iaload, 1) ∧ decode cX9_of 13 = .ok (.ireturn, 1) := by decide +kernel
theorem dX9_of_11 : decode cX9_of 11 = .ok (.iadd, 1) := gdX9_of_11.1
theorem dX9_of_12 : decode cX9_of 12 = .ok (.iaload, 1) := gdX9_of_11.2.1
theorem dX9_of_13 : decode cX9_of 13 = .ok (.ireturn, 1) := gdX9_of_11.2.2
set_option maxRecDepth 20000 in
theorem gdX9_ownerSeen_0 : decode cX9_ownerSeen 0 = .ok (.aload_n 0, 1) ∧ decode cX9_ownerSeen 1 = .ok (.getfield 213, 3) ∧ decode cX9_ownerSeen 4 = .ok (.ifCond .lt 31, 3) ∧ decode cX9_ownerSeen 7 = .ok (.aload_n 0, 1) ∧ decode cX9_ownerSeen 8 = .ok (.getfield 19, 3) ∧ decode cX9_ownerSeen 11 = .ok (.iconst 4, 1) ∧ decode cX9_ownerSeen 12 = .ok (.aload_n 0, 1) ∧ decode cX9_ownerSeen 13 = .ok (.getfield 213, 3) := by decide +kernel
theorem dX9_ownerSeen_0 : decode cX9_ownerSeen 0 = .ok (.aload_n 0, 1) := gdX9_ownerSeen_0.1
theorem dX9_ownerSeen_1 : decode cX9_ownerSeen 1 = .ok (.getfield 213, 3) := gdX9_ownerSeen_0.2.1
theorem dX9_ownerSeen_4 : decode cX9_ownerSeen 4 = .ok (.ifCond .lt 31, 3) := gdX9_ownerSeen_0.2.2.1
theorem dX9_ownerSeen_7 : decode cX9_ownerSeen 7 = .ok (.aload_n 0, 1) := gdX9_ownerSeen_0.2.2.2.1
theorem dX9_ownerSeen_8 : decode cX9_ownerSeen 8 = .ok (.getfield 19, 3) := gdX9_ownerSeen_0.2.2.2.2.1
theorem dX9_ownerSeen_11 : decode cX9_ownerSeen 11 = .ok (.iconst 4, 1) := gdX9_ownerSeen_0.2.2.2.2.2.1
theorem dX9_ownerSeen_12 : decode cX9_ownerSeen 12 = .ok (.aload_n 0, 1) := gdX9_ownerSeen_0.2.2.2.2.2.2.1
theorem dX9_ownerSeen_13 : decode cX9_ownerSeen 13 = .ok (.getfield 213, 3) := gdX9_ownerSeen_0.2.2.2.2.2.2.2
set_option maxRecDepth 20000 in
theorem gdX9_ownerSeen_16 : decode cX9_ownerSeen 16 = .ok (.iadd, 1) ∧ decode cX9_ownerSeen 17 = .ok (.iaload, 1) ∧ decode cX9_ownerSeen 18 = .ok (.ifCond .lt 17, 3) ∧ decode cX9_ownerSeen 21 = .ok (.aload_n 0, 1) ∧ decode cX9_ownerSeen 22 = .ok (.getfield 19, 3) ∧ decode cX9_ownerSeen 25 = .ok (.iconst 4, 1) ∧ decode cX9_ownerSeen 26 = .ok (.aload_n 0, 1) ∧ decode cX9_ownerSeen 27 = .ok (.getfield 213, 3) := by decide +kernel
theorem dX9_ownerSeen_16 : decode cX9_ownerSeen 16 = .ok (.iadd, 1) := gdX9_ownerSeen_16.1
theorem dX9_ownerSeen_17 : decode cX9_ownerSeen 17 = .ok (.iaload, 1) := gdX9_ownerSeen_16.2.1
theorem dX9_ownerSeen_18 : decode cX9_ownerSeen 18 = .ok (.ifCond .lt 17, 3) := gdX9_ownerSeen_16.2.2.1
theorem dX9_ownerSeen_21 : decode cX9_ownerSeen 21 = .ok (.aload_n 0, 1) := gdX9_ownerSeen_16.2.2.2.1
theorem dX9_ownerSeen_22 : decode cX9_ownerSeen 22 = .ok (.getfield 19, 3) := gdX9_ownerSeen_16.2.2.2.2.1
theorem dX9_ownerSeen_25 : decode cX9_ownerSeen 25 = .ok (.iconst 4, 1) := gdX9_ownerSeen_16.2.2.2.2.2.1
theorem dX9_ownerSeen_26 : decode cX9_ownerSeen 26 = .ok (.aload_n 0, 1) := gdX9_ownerSeen_16.2.2.2.2.2.2.1
theorem dX9_ownerSeen_27 : decode cX9_ownerSeen 27 = .ok (.getfield 213, 3) := gdX9_ownerSeen_16.2.2.2.2.2.2.2
set_option maxRecDepth 20000 in
theorem gdX9_ownerSeen_30 : decode cX9_ownerSeen 30 = .ok (.iadd, 1) ∧ decode cX9_ownerSeen 31 = .ok (.iaload, 1) ∧ decode cX9_ownerSeen 32 = .ok (.goto 4, 3) ∧ decode cX9_ownerSeen 35 = .ok (.iconst (-1), 1) ∧ decode cX9_ownerSeen 36 = .ok (.ireturn, 1) := by decide +kernel
theorem dX9_ownerSeen_30 : decode cX9_ownerSeen 30 = .ok (.iadd, 1) := gdX9_ownerSeen_30.1
theorem dX9_ownerSeen_31 : decode cX9_ownerSeen 31 = .ok (.iaload, 1) := gdX9_ownerSeen_30.2.1
theorem dX9_ownerSeen_32 : decode cX9_ownerSeen 32 = .ok (.goto 4, 3) := gdX9_ownerSeen_30.2.2.1
theorem dX9_ownerSeen_35 : decode cX9_ownerSeen 35 = .ok (.iconst (-1), 1) := gdX9_ownerSeen_30.2.2.2.1
theorem dX9_ownerSeen_36 : decode cX9_ownerSeen 36 = .ok (.ireturn, 1) := gdX9_ownerSeen_30.2.2.2.2
set_option maxRecDepth 20000 in
theorem gdX9_paysNow_0 : decode cX9_paysNow 0 = .ok (.aload_n 0, 1) ∧ decode cX9_paysNow 1 = .ok (.invokevirtual 216, 3) ∧ decode cX9_paysNow 4 = .ok (.istore_n 2, 1) ∧ decode cX9_paysNow 5 = .ok (.iload_n 2, 1) ∧ decode cX9_paysNow 6 = .ok (.ifCond .lt 26, 3) ∧ decode cX9_paysNow 9 = .ok (.aload_n 0, 1) ∧ decode cX9_paysNow 10 = .ok (.iload_n 1, 1) ∧ decode cX9_paysNow 11 = .ok (.iconst 2, 1) := by decide +kernel
theorem dX9_paysNow_0 : decode cX9_paysNow 0 = .ok (.aload_n 0, 1) := gdX9_paysNow_0.1
theorem dX9_paysNow_1 : decode cX9_paysNow 1 = .ok (.invokevirtual 216, 3) := gdX9_paysNow_0.2.1
theorem dX9_paysNow_4 : decode cX9_paysNow 4 = .ok (.istore_n 2, 1) := gdX9_paysNow_0.2.2.1
theorem dX9_paysNow_5 : decode cX9_paysNow 5 = .ok (.iload_n 2, 1) := gdX9_paysNow_0.2.2.2.1
theorem dX9_paysNow_6 : decode cX9_paysNow 6 = .ok (.ifCond .lt 26, 3) := gdX9_paysNow_0.2.2.2.2.1
theorem dX9_paysNow_9 : decode cX9_paysNow 9 = .ok (.aload_n 0, 1) := gdX9_paysNow_0.2.2.2.2.2.1
theorem dX9_paysNow_10 : decode cX9_paysNow 10 = .ok (.iload_n 1, 1) := gdX9_paysNow_0.2.2.2.2.2.2.1
theorem dX9_paysNow_11 : decode cX9_paysNow 11 = .ok (.iconst 2, 1) := gdX9_paysNow_0.2.2.2.2.2.2.2
set_option maxRecDepth 20000 in
theorem gdX9_paysNow_12 : decode cX9_paysNow 12 = .ok (.invokevirtual 239, 3) ∧ decode cX9_paysNow 15 = .ok (.iconst 1, 1) ∧ decode cX9_paysNow 16 = .ok (.if_icmp .ne 20, 3) ∧ decode cX9_paysNow 19 = .ok (.aload_n 0, 1) ∧ decode cX9_paysNow 20 = .ok (.getfield 19, 3) ∧ decode cX9_paysNow 23 = .ok (.bipush 90, 2) ∧ decode cX9_paysNow 25 = .ok (.iload_n 2, 1) ∧ decode cX9_paysNow 26 = .ok (.iadd, 1) := by decide +kernel
theorem dX9_paysNow_12 : decode cX9_paysNow 12 = .ok (.invokevirtual 239, 3) := gdX9_paysNow_12.1
theorem dX9_paysNow_15 : decode cX9_paysNow 15 = .ok (.iconst 1, 1) := gdX9_paysNow_12.2.1
theorem dX9_paysNow_16 : decode cX9_paysNow 16 = .ok (.if_icmp .ne 20, 3) := gdX9_paysNow_12.2.2.1
theorem dX9_paysNow_19 : decode cX9_paysNow 19 = .ok (.aload_n 0, 1) := gdX9_paysNow_12.2.2.2.1
theorem dX9_paysNow_20 : decode cX9_paysNow 20 = .ok (.getfield 19, 3) := gdX9_paysNow_12.2.2.2.2.1
theorem dX9_paysNow_23 : decode cX9_paysNow 23 = .ok (.bipush 90, 2) := gdX9_paysNow_12.2.2.2.2.2.1
theorem dX9_paysNow_25 : decode cX9_paysNow 25 = .ok (.iload_n 2, 1) := gdX9_paysNow_12.2.2.2.2.2.2.1
theorem dX9_paysNow_26 : decode cX9_paysNow 26 = .ok (.iadd, 1) := gdX9_paysNow_12.2.2.2.2.2.2.2
set_option maxRecDepth 20000 in
theorem gdX9_paysNow_27 : decode cX9_paysNow 27 = .ok (.iaload, 1) ∧ decode cX9_paysNow 28 = .ok (.iconst 1, 1) ∧ decode cX9_paysNow 29 = .ok (.if_icmp .ne 7, 3) ∧ decode cX9_paysNow 32 = .ok (.iconst 0, 1) ∧ decode cX9_paysNow 33 = .ok (.goto 7, 3) ∧ decode cX9_paysNow 36 = .ok (.aload_n 0, 1) ∧ decode cX9_paysNow 37 = .ok (.invokevirtual 228, 3) ∧ decode cX9_paysNow 40 = .ok (.ireturn, 1) := by decide +kernel
theorem dX9_paysNow_27 : decode cX9_paysNow 27 = .ok (.iaload, 1) := gdX9_paysNow_27.1
theorem dX9_paysNow_28 : decode cX9_paysNow 28 = .ok (.iconst 1, 1) := gdX9_paysNow_27.2.1
theorem dX9_paysNow_29 : decode cX9_paysNow 29 = .ok (.if_icmp .ne 7, 3) := gdX9_paysNow_27.2.2.1
theorem dX9_paysNow_32 : decode cX9_paysNow 32 = .ok (.iconst 0, 1) := gdX9_paysNow_27.2.2.2.1
theorem dX9_paysNow_33 : decode cX9_paysNow 33 = .ok (.goto 7, 3) := gdX9_paysNow_27.2.2.2.2.1
theorem dX9_paysNow_36 : decode cX9_paysNow 36 = .ok (.aload_n 0, 1) := gdX9_paysNow_27.2.2.2.2.2.1
theorem dX9_paysNow_37 : decode cX9_paysNow 37 = .ok (.invokevirtual 228, 3) := gdX9_paysNow_27.2.2.2.2.2.2.1
theorem dX9_paysNow_40 : decode cX9_paysNow 40 = .ok (.ireturn, 1) := gdX9_paysNow_27.2.2.2.2.2.2.2
set_option maxRecDepth 20000 in
theorem gdX9_priceSeen_0 : decode cX9_priceSeen 0 = .ok (.aload_n 0, 1) ∧ decode cX9_priceSeen 1 = .ok (.invokevirtual 216, 3) ∧ decode cX9_priceSeen 4 = .ok (.istore_n 1, 1) ∧ decode cX9_priceSeen 5 = .ok (.iload_n 1, 1) ∧ decode cX9_priceSeen 6 = .ok (.ifCond .ge 7, 3) ∧ decode cX9_priceSeen 9 = .ok (.iconst 0, 1) ∧ decode cX9_priceSeen 10 = .ok (.goto 19, 3) ∧ decode cX9_priceSeen 13 = .ok (.aload_n 0, 1) := by decide +kernel
theorem dX9_priceSeen_0 : decode cX9_priceSeen 0 = .ok (.aload_n 0, 1) := gdX9_priceSeen_0.1
theorem dX9_priceSeen_1 : decode cX9_priceSeen 1 = .ok (.invokevirtual 216, 3) := gdX9_priceSeen_0.2.1
theorem dX9_priceSeen_4 : decode cX9_priceSeen 4 = .ok (.istore_n 1, 1) := gdX9_priceSeen_0.2.2.1
theorem dX9_priceSeen_5 : decode cX9_priceSeen 5 = .ok (.iload_n 1, 1) := gdX9_priceSeen_0.2.2.2.1
theorem dX9_priceSeen_6 : decode cX9_priceSeen 6 = .ok (.ifCond .ge 7, 3) := gdX9_priceSeen_0.2.2.2.2.1
theorem dX9_priceSeen_9 : decode cX9_priceSeen 9 = .ok (.iconst 0, 1) := gdX9_priceSeen_0.2.2.2.2.2.1
theorem dX9_priceSeen_10 : decode cX9_priceSeen 10 = .ok (.goto 19, 3) := gdX9_priceSeen_0.2.2.2.2.2.2.1
theorem dX9_priceSeen_13 : decode cX9_priceSeen 13 = .ok (.aload_n 0, 1) := gdX9_priceSeen_0.2.2.2.2.2.2.2
set_option maxRecDepth 20000 in
theorem gdX9_priceSeen_14 : decode cX9_priceSeen 14 = .ok (.getfield 19, 3) ∧ decode cX9_priceSeen 17 = .ok (.bipush 84, 2) ∧ decode cX9_priceSeen 19 = .ok (.iload_n 1, 1) ∧ decode cX9_priceSeen 20 = .ok (.iadd, 1) ∧ decode cX9_priceSeen 21 = .ok (.iaload, 1) ∧ decode cX9_priceSeen 22 = .ok (.aload_n 0, 1) ∧ decode cX9_priceSeen 23 = .ok (.getfield 207, 3) ∧ decode cX9_priceSeen 26 = .ok (.iconst 1, 1) := by decide +kernel
theorem dX9_priceSeen_14 : decode cX9_priceSeen 14 = .ok (.getfield 19, 3) := gdX9_priceSeen_14.1
theorem dX9_priceSeen_17 : decode cX9_priceSeen 17 = .ok (.bipush 84, 2) := gdX9_priceSeen_14.2.1
theorem dX9_priceSeen_19 : decode cX9_priceSeen 19 = .ok (.iload_n 1, 1) := gdX9_priceSeen_14.2.2.1
theorem dX9_priceSeen_20 : decode cX9_priceSeen 20 = .ok (.iadd, 1) := gdX9_priceSeen_14.2.2.2.1
theorem dX9_priceSeen_21 : decode cX9_priceSeen 21 = .ok (.iaload, 1) := gdX9_priceSeen_14.2.2.2.2.1
theorem dX9_priceSeen_22 : decode cX9_priceSeen 22 = .ok (.aload_n 0, 1) := gdX9_priceSeen_14.2.2.2.2.2.1
theorem dX9_priceSeen_23 : decode cX9_priceSeen 23 = .ok (.getfield 207, 3) := gdX9_priceSeen_14.2.2.2.2.2.2.1
theorem dX9_priceSeen_26 : decode cX9_priceSeen 26 = .ok (.iconst 1, 1) := gdX9_priceSeen_14.2.2.2.2.2.2.2
set_option maxRecDepth 20000 in
theorem gdX9_priceSeen_27 : decode cX9_priceSeen 27 = .ok (.iadd, 1) ∧ decode cX9_priceSeen 28 = .ok (.imul, 1) ∧ decode cX9_priceSeen 29 = .ok (.ireturn, 1) := by decide +kernel
theorem dX9_priceSeen_27 : decode cX9_priceSeen 27 = .ok (.iadd, 1) := gdX9_priceSeen_27.1
theorem dX9_priceSeen_28 : decode cX9_priceSeen 28 = .ok (.imul, 1) := gdX9_priceSeen_27.2.1
theorem dX9_priceSeen_29 : decode cX9_priceSeen 29 = .ok (.ireturn, 1) := gdX9_priceSeen_27.2.2
set_option maxRecDepth 20000 in
theorem gdX9_steps_0 : decode cX9_steps 0 = .ok (.aload_n 0, 1) ∧ decode cX9_steps 1 = .ok (.iload_n 1, 1) ∧ decode cX9_steps 2 = .ok (.iconst 0, 1) ∧ decode cX9_steps 3 = .ok (.invokevirtual 239, 3) ∧ decode cX9_steps 6 = .ok (.istore_n 3, 1) ∧ decode cX9_steps 7 = .ok (.iconst 0, 1) ∧ decode cX9_steps 8 = .ok (.istore 4, 2) ∧ decode cX9_steps 10 = .ok (.iload_n 2, 1) := by decide +kernel
theorem dX9_steps_0 : decode cX9_steps 0 = .ok (.aload_n 0, 1) := gdX9_steps_0.1
theorem dX9_steps_1 : decode cX9_steps 1 = .ok (.iload_n 1, 1) := gdX9_steps_0.2.1
theorem dX9_steps_2 : decode cX9_steps 2 = .ok (.iconst 0, 1) := gdX9_steps_0.2.2.1
theorem dX9_steps_3 : decode cX9_steps 3 = .ok (.invokevirtual 239, 3) := gdX9_steps_0.2.2.2.1
theorem dX9_steps_6 : decode cX9_steps 6 = .ok (.istore_n 3, 1) := gdX9_steps_0.2.2.2.2.1
theorem dX9_steps_7 : decode cX9_steps 7 = .ok (.iconst 0, 1) := gdX9_steps_0.2.2.2.2.2.1
theorem dX9_steps_8 : decode cX9_steps 8 = .ok (.istore 4, 2) := gdX9_steps_0.2.2.2.2.2.2.1
theorem dX9_steps_10 : decode cX9_steps 10 = .ok (.iload_n 2, 1) := gdX9_steps_0.2.2.2.2.2.2.2
set_option maxRecDepth 20000 in
theorem gdX9_steps_11 : decode cX9_steps 11 = .ok (.bipush 8, 2) ∧ decode cX9_steps 13 = .ok (.if_icmp .ge 67, 3) ∧ decode cX9_steps 16 = .ok (.aload_n 0, 1) ∧ decode cX9_steps 17 = .ok (.iload_n 3, 1) ∧ decode cX9_steps 18 = .ok (.iload_n 2, 1) ∧ decode cX9_steps 19 = .ok (.invokevirtual 225, 3) ∧ decode cX9_steps 22 = .ok (.aload_n 0, 1) ∧ decode cX9_steps 23 = .ok (.invokevirtual 216, 3) := by decide +kernel
theorem dX9_steps_11 : decode cX9_steps 11 = .ok (.bipush 8, 2) := gdX9_steps_11.1
theorem dX9_steps_13 : decode cX9_steps 13 = .ok (.if_icmp .ge 67, 3) := gdX9_steps_11.2.1
theorem dX9_steps_16 : decode cX9_steps 16 = .ok (.aload_n 0, 1) := gdX9_steps_11.2.2.1
theorem dX9_steps_17 : decode cX9_steps 17 = .ok (.iload_n 3, 1) := gdX9_steps_11.2.2.2.1
theorem dX9_steps_18 : decode cX9_steps 18 = .ok (.iload_n 2, 1) := gdX9_steps_11.2.2.2.2.1
theorem dX9_steps_19 : decode cX9_steps 19 = .ok (.invokevirtual 225, 3) := gdX9_steps_11.2.2.2.2.2.1
theorem dX9_steps_22 : decode cX9_steps 22 = .ok (.aload_n 0, 1) := gdX9_steps_11.2.2.2.2.2.2.1
theorem dX9_steps_23 : decode cX9_steps 23 = .ok (.invokevirtual 216, 3) := gdX9_steps_11.2.2.2.2.2.2.2
set_option maxRecDepth 20000 in
theorem gdX9_steps_26 : decode cX9_steps 26 = .ok (.istore 5, 2) ∧ decode cX9_steps 28 = .ok (.aload_n 0, 1) ∧ decode cX9_steps 29 = .ok (.iload_n 1, 1) ∧ decode cX9_steps 30 = .ok (.invokevirtual 244, 3) ∧ decode cX9_steps 33 = .ok (.istore 4, 2) ∧ decode cX9_steps 35 = .ok (.iload 5, 2) ∧ decode cX9_steps 37 = .ok (.ifCond .lt 43, 3) ∧ decode cX9_steps 40 = .ok (.aload_n 0, 1) := by decide +kernel
theorem dX9_steps_26 : decode cX9_steps 26 = .ok (.istore 5, 2) := gdX9_steps_26.1
theorem dX9_steps_28 : decode cX9_steps 28 = .ok (.aload_n 0, 1) := gdX9_steps_26.2.1
theorem dX9_steps_29 : decode cX9_steps 29 = .ok (.iload_n 1, 1) := gdX9_steps_26.2.2.1
theorem dX9_steps_30 : decode cX9_steps 30 = .ok (.invokevirtual 244, 3) := gdX9_steps_26.2.2.2.1
theorem dX9_steps_33 : decode cX9_steps 33 = .ok (.istore 4, 2) := gdX9_steps_26.2.2.2.2.1
theorem dX9_steps_35 : decode cX9_steps 35 = .ok (.iload 5, 2) := gdX9_steps_26.2.2.2.2.2.1
theorem dX9_steps_37 : decode cX9_steps 37 = .ok (.ifCond .lt 43, 3) := gdX9_steps_26.2.2.2.2.2.2.1
theorem dX9_steps_40 : decode cX9_steps 40 = .ok (.aload_n 0, 1) := gdX9_steps_26.2.2.2.2.2.2.2
set_option maxRecDepth 20000 in
theorem gdX9_steps_41 : decode cX9_steps 41 = .ok (.getfield 19, 3) ∧ decode cX9_steps 44 = .ok (.bipush 120, 2) ∧ decode cX9_steps 46 = .ok (.bipush 6, 2) ∧ decode cX9_steps 48 = .ok (.iload_n 1, 1) ∧ decode cX9_steps 49 = .ok (.imul, 1) ∧ decode cX9_steps 50 = .ok (.iadd, 1) ∧ decode cX9_steps 51 = .ok (.iload 5, 2) ∧ decode cX9_steps 53 = .ok (.iadd, 1) := by decide +kernel
theorem dX9_steps_41 : decode cX9_steps 41 = .ok (.getfield 19, 3) := gdX9_steps_41.1
theorem dX9_steps_44 : decode cX9_steps 44 = .ok (.bipush 120, 2) := gdX9_steps_41.2.1
theorem dX9_steps_46 : decode cX9_steps 46 = .ok (.bipush 6, 2) := gdX9_steps_41.2.2.1
theorem dX9_steps_48 : decode cX9_steps 48 = .ok (.iload_n 1, 1) := gdX9_steps_41.2.2.2.1
theorem dX9_steps_49 : decode cX9_steps 49 = .ok (.imul, 1) := gdX9_steps_41.2.2.2.2.1
theorem dX9_steps_50 : decode cX9_steps 50 = .ok (.iadd, 1) := gdX9_steps_41.2.2.2.2.2.1
theorem dX9_steps_51 : decode cX9_steps 51 = .ok (.iload 5, 2) := gdX9_steps_41.2.2.2.2.2.2.1
theorem dX9_steps_53 : decode cX9_steps 53 = .ok (.iadd, 1) := gdX9_steps_41.2.2.2.2.2.2.2
set_option maxRecDepth 20000 in
theorem gdX9_steps_54 : decode cX9_steps 54 = .ok (.dup2, 1) ∧ decode cX9_steps 55 = .ok (.iaload, 1) ∧ decode cX9_steps 56 = .ok (.iload 4, 2) ∧ decode cX9_steps 58 = .ok (.iadd, 1) ∧ decode cX9_steps 59 = .ok (.iastore, 1) ∧ decode cX9_steps 60 = .ok (.aload_n 0, 1) ∧ decode cX9_steps 61 = .ok (.getfield 19, 3) ∧ decode cX9_steps 64 = .ok (.sipush 156, 3) := by decide +kernel
theorem dX9_steps_54 : decode cX9_steps 54 = .ok (.dup2, 1) := gdX9_steps_54.1
theorem dX9_steps_55 : decode cX9_steps 55 = .ok (.iaload, 1) := gdX9_steps_54.2.1
theorem dX9_steps_56 : decode cX9_steps 56 = .ok (.iload 4, 2) := gdX9_steps_54.2.2.1
theorem dX9_steps_58 : decode cX9_steps 58 = .ok (.iadd, 1) := gdX9_steps_54.2.2.2.1
theorem dX9_steps_59 : decode cX9_steps 59 = .ok (.iastore, 1) := gdX9_steps_54.2.2.2.2.1
theorem dX9_steps_60 : decode cX9_steps 60 = .ok (.aload_n 0, 1) := gdX9_steps_54.2.2.2.2.2.1
theorem dX9_steps_61 : decode cX9_steps 61 = .ok (.getfield 19, 3) := gdX9_steps_54.2.2.2.2.2.2.1
theorem dX9_steps_64 : decode cX9_steps 64 = .ok (.sipush 156, 3) := gdX9_steps_54.2.2.2.2.2.2.2
set_option maxRecDepth 20000 in
theorem gdX9_steps_67 : decode cX9_steps 67 = .ok (.bipush 6, 2) ∧ decode cX9_steps 69 = .ok (.iload_n 1, 1) ∧ decode cX9_steps 70 = .ok (.imul, 1) ∧ decode cX9_steps 71 = .ok (.iadd, 1) ∧ decode cX9_steps 72 = .ok (.iload 5, 2) ∧ decode cX9_steps 74 = .ok (.iadd, 1) ∧ decode cX9_steps 75 = .ok (.dup2, 1) ∧ decode cX9_steps 76 = .ok (.iaload, 1) := by decide +kernel
theorem dX9_steps_67 : decode cX9_steps 67 = .ok (.bipush 6, 2) := gdX9_steps_67.1
theorem dX9_steps_69 : decode cX9_steps 69 = .ok (.iload_n 1, 1) := gdX9_steps_67.2.1
theorem dX9_steps_70 : decode cX9_steps 70 = .ok (.imul, 1) := gdX9_steps_67.2.2.1
theorem dX9_steps_71 : decode cX9_steps 71 = .ok (.iadd, 1) := gdX9_steps_67.2.2.2.1
theorem dX9_steps_72 : decode cX9_steps 72 = .ok (.iload 5, 2) := gdX9_steps_67.2.2.2.2.1
theorem dX9_steps_74 : decode cX9_steps 74 = .ok (.iadd, 1) := gdX9_steps_67.2.2.2.2.2.1
theorem dX9_steps_75 : decode cX9_steps 75 = .ok (.dup2, 1) := gdX9_steps_67.2.2.2.2.2.2.1
theorem dX9_steps_76 : decode cX9_steps 76 = .ok (.iaload, 1) := gdX9_steps_67.2.2.2.2.2.2.2
set_option maxRecDepth 20000 in
theorem gdX9_steps_77 : decode cX9_steps 77 = .ok (.iconst 1, 1) ∧ decode cX9_steps 78 = .ok (.iadd, 1) ∧ decode cX9_steps 79 = .ok (.iastore, 1) ∧ decode cX9_steps 80 = .ok (.aload_n 0, 1) ∧ decode cX9_steps 81 = .ok (.iload_n 3, 1) ∧ decode cX9_steps 82 = .ok (.iload_n 2, 1) ∧ decode cX9_steps 83 = .ok (.bipush 8, 2) ∧ decode cX9_steps 85 = .ok (.irem, 1) := by decide +kernel
theorem dX9_steps_77 : decode cX9_steps 77 = .ok (.iconst 1, 1) := gdX9_steps_77.1
theorem dX9_steps_78 : decode cX9_steps 78 = .ok (.iadd, 1) := gdX9_steps_77.2.1
theorem dX9_steps_79 : decode cX9_steps 79 = .ok (.iastore, 1) := gdX9_steps_77.2.2.1
theorem dX9_steps_80 : decode cX9_steps 80 = .ok (.aload_n 0, 1) := gdX9_steps_77.2.2.2.1
theorem dX9_steps_81 : decode cX9_steps 81 = .ok (.iload_n 3, 1) := gdX9_steps_77.2.2.2.2.1
theorem dX9_steps_82 : decode cX9_steps 82 = .ok (.iload_n 2, 1) := gdX9_steps_77.2.2.2.2.2.1
theorem dX9_steps_83 : decode cX9_steps 83 = .ok (.bipush 8, 2) := gdX9_steps_77.2.2.2.2.2.2.1
theorem dX9_steps_85 : decode cX9_steps 85 = .ok (.irem, 1) := gdX9_steps_77.2.2.2.2.2.2.2
set_option maxRecDepth 20000 in
theorem gdX9_steps_86 : decode cX9_steps 86 = .ok (.invokevirtual 204, 3) ∧ decode cX9_steps 89 = .ok (.istore 5, 2) ∧ decode cX9_steps 91 = .ok (.iload 5, 2) ∧ decode cX9_steps 93 = .ok (.ifCond .lt 30, 3) ∧ decode cX9_steps 96 = .ok (.aload_n 0, 1) ∧ decode cX9_steps 97 = .ok (.getfield 19, 3) ∧ decode cX9_steps 100 = .ok (.iconst 4, 1) ∧ decode cX9_steps 101 = .ok (.iload 5, 2) := by decide +kernel
theorem dX9_steps_86 : decode cX9_steps 86 = .ok (.invokevirtual 204, 3) := gdX9_steps_86.1
theorem dX9_steps_89 : decode cX9_steps 89 = .ok (.istore 5, 2) := gdX9_steps_86.2.1
theorem dX9_steps_91 : decode cX9_steps 91 = .ok (.iload 5, 2) := gdX9_steps_86.2.2.1
theorem dX9_steps_93 : decode cX9_steps 93 = .ok (.ifCond .lt 30, 3) := gdX9_steps_86.2.2.2.1
theorem dX9_steps_96 : decode cX9_steps 96 = .ok (.aload_n 0, 1) := gdX9_steps_86.2.2.2.2.1
theorem dX9_steps_97 : decode cX9_steps 97 = .ok (.getfield 19, 3) := gdX9_steps_86.2.2.2.2.2.1
theorem dX9_steps_100 : decode cX9_steps 100 = .ok (.iconst 4, 1) := gdX9_steps_86.2.2.2.2.2.2.1
theorem dX9_steps_101 : decode cX9_steps 101 = .ok (.iload 5, 2) := gdX9_steps_86.2.2.2.2.2.2.2
set_option maxRecDepth 20000 in
theorem gdX9_steps_103 : decode cX9_steps 103 = .ok (.iadd, 1) ∧ decode cX9_steps 104 = .ok (.iaload, 1) ∧ decode cX9_steps 105 = .ok (.bipush (-3), 2) ∧ decode cX9_steps 107 = .ok (.if_icmp .ne 16, 3) ∧ decode cX9_steps 110 = .ok (.aload_n 0, 1) ∧ decode cX9_steps 111 = .ok (.getfield 19, 3) ∧ decode cX9_steps 114 = .ok (.bipush 96, 2) ∧ decode cX9_steps 116 = .ok (.iconst 4, 1) := by decide +kernel
theorem dX9_steps_103 : decode cX9_steps 103 = .ok (.iadd, 1) := gdX9_steps_103.1
theorem dX9_steps_104 : decode cX9_steps 104 = .ok (.iaload, 1) := gdX9_steps_103.2.1
theorem dX9_steps_105 : decode cX9_steps 105 = .ok (.bipush (-3), 2) := gdX9_steps_103.2.2.1
theorem dX9_steps_107 : decode cX9_steps 107 = .ok (.if_icmp .ne 16, 3) := gdX9_steps_103.2.2.2.1
theorem dX9_steps_110 : decode cX9_steps 110 = .ok (.aload_n 0, 1) := gdX9_steps_103.2.2.2.2.1
theorem dX9_steps_111 : decode cX9_steps 111 = .ok (.getfield 19, 3) := gdX9_steps_103.2.2.2.2.2.1
theorem dX9_steps_114 : decode cX9_steps 114 = .ok (.bipush 96, 2) := gdX9_steps_103.2.2.2.2.2.2.1
theorem dX9_steps_116 : decode cX9_steps 116 = .ok (.iconst 4, 1) := gdX9_steps_103.2.2.2.2.2.2.2
set_option maxRecDepth 20000 in
theorem gdX9_steps_117 : decode cX9_steps 117 = .ok (.iload_n 1, 1) ∧ decode cX9_steps 118 = .ok (.imul, 1) ∧ decode cX9_steps 119 = .ok (.iadd, 1) ∧ decode cX9_steps 120 = .ok (.iload 5, 2) ∧ decode cX9_steps 122 = .ok (.iastore, 1) ∧ decode cX9_steps 123 = .ok (.aload_n 0, 1) ∧ decode cX9_steps 124 = .ok (.getfield 19, 3) ∧ decode cX9_steps 127 = .ok (.bipush 96, 2) := by decide +kernel
theorem dX9_steps_117 : decode cX9_steps 117 = .ok (.iload_n 1, 1) := gdX9_steps_117.1
theorem dX9_steps_118 : decode cX9_steps 118 = .ok (.imul, 1) := gdX9_steps_117.2.1
theorem dX9_steps_119 : decode cX9_steps 119 = .ok (.iadd, 1) := gdX9_steps_117.2.2.1
theorem dX9_steps_120 : decode cX9_steps 120 = .ok (.iload 5, 2) := gdX9_steps_117.2.2.2.1
theorem dX9_steps_122 : decode cX9_steps 122 = .ok (.iastore, 1) := gdX9_steps_117.2.2.2.2.1
theorem dX9_steps_123 : decode cX9_steps 123 = .ok (.aload_n 0, 1) := gdX9_steps_117.2.2.2.2.2.1
theorem dX9_steps_124 : decode cX9_steps 124 = .ok (.getfield 19, 3) := gdX9_steps_117.2.2.2.2.2.2.1
theorem dX9_steps_127 : decode cX9_steps 127 = .ok (.bipush 96, 2) := gdX9_steps_117.2.2.2.2.2.2.2
set_option maxRecDepth 20000 in
theorem gdX9_steps_129 : decode cX9_steps 129 = .ok (.iconst 4, 1) ∧ decode cX9_steps 130 = .ok (.iload_n 1, 1) ∧ decode cX9_steps 131 = .ok (.imul, 1) ∧ decode cX9_steps 132 = .ok (.iadd, 1) ∧ decode cX9_steps 133 = .ok (.iconst 3, 1) ∧ decode cX9_steps 134 = .ok (.iadd, 1) ∧ decode cX9_steps 135 = .ok (.dup2, 1) ∧ decode cX9_steps 136 = .ok (.iaload, 1) := by decide +kernel
theorem dX9_steps_129 : decode cX9_steps 129 = .ok (.iconst 4, 1) := gdX9_steps_129.1
theorem dX9_steps_130 : decode cX9_steps 130 = .ok (.iload_n 1, 1) := gdX9_steps_129.2.1
theorem dX9_steps_131 : decode cX9_steps 131 = .ok (.imul, 1) := gdX9_steps_129.2.2.1
theorem dX9_steps_132 : decode cX9_steps 132 = .ok (.iadd, 1) := gdX9_steps_129.2.2.2.1
theorem dX9_steps_133 : decode cX9_steps 133 = .ok (.iconst 3, 1) := gdX9_steps_129.2.2.2.2.1
theorem dX9_steps_134 : decode cX9_steps 134 = .ok (.iadd, 1) := gdX9_steps_129.2.2.2.2.2.1
theorem dX9_steps_135 : decode cX9_steps 135 = .ok (.dup2, 1) := gdX9_steps_129.2.2.2.2.2.2.1
theorem dX9_steps_136 : decode cX9_steps 136 = .ok (.iaload, 1) := gdX9_steps_129.2.2.2.2.2.2.2
set_option maxRecDepth 20000 in
theorem gdX9_steps_137 : decode cX9_steps 137 = .ok (.iconst 1, 1) ∧ decode cX9_steps 138 = .ok (.iadd, 1) ∧ decode cX9_steps 139 = .ok (.iastore, 1) ∧ decode cX9_steps 140 = .ok (.iload 4, 2) ∧ decode cX9_steps 142 = .ok (.ireturn, 1) := by decide +kernel
theorem dX9_steps_137 : decode cX9_steps 137 = .ok (.iconst 1, 1) := gdX9_steps_137.1
theorem dX9_steps_138 : decode cX9_steps 138 = .ok (.iadd, 1) := gdX9_steps_137.2.1
theorem dX9_steps_139 : decode cX9_steps 139 = .ok (.iastore, 1) := gdX9_steps_137.2.2.1
theorem dX9_steps_140 : decode cX9_steps 140 = .ok (.iload 4, 2) := gdX9_steps_137.2.2.2.1
theorem dX9_steps_142 : decode cX9_steps 142 = .ok (.ireturn, 1) := gdX9_steps_137.2.2.2.2
theorem jX9_firstShut_X9 : ∀ w ∈ u_ws RX9 TX9 29, w ∈ wsX9_firstShut := fun w h => List.mem_cons_of_mem _ (List.mem_append_right _ h)
theorem jX9_isIn_X9 : ∀ w ∈ u_ws RX9 TX9 29, w ∈ wsX9_isIn := fun w h => List.mem_cons_of_mem _ (List.mem_append_right _ h)
theorem jX9_isOne_X9 : ∀ w ∈ u_ws RX9 TX9 29, w ∈ wsX9_isOne := fun w h => List.mem_cons_of_mem _ (List.mem_append_right _ h)
theorem jX9_isOpen_X9 : ∀ w ∈ u_ws RX9 TX9 29, w ∈ wsX9_isOpen := fun w h => List.mem_cons_of_mem _ (List.mem_append_right _ h)
theorem jX9_lookFrom_X9 : ∀ w ∈ u_ws RX9 TX9 29, w ∈ wsX9_lookFrom := fun w h => List.mem_cons_of_mem _ (List.mem_append_right _ h)
theorem jX9_of_X9 : ∀ w ∈ u_ws RX9 TX9 29, w ∈ wsX9_of := fun w h => List.mem_cons_of_mem _ (List.mem_append_right _ h)
theorem jX9_ownerSeen_X9 : ∀ w ∈ u_ws RX9 TX9 29, w ∈ wsX9_ownerSeen := fun w h => List.mem_cons_of_mem _ (List.mem_append_right _ h)
theorem jX9_paysNow_X9 : ∀ w ∈ u_ws RX9 TX9 29, w ∈ wsX9_paysNow := fun w h => List.mem_cons_of_mem _ (List.mem_append_right _ h)
theorem jX9_priceSeen_X9 : ∀ w ∈ u_ws RX9 TX9 29, w ∈ wsX9_priceSeen := fun w h => List.mem_cons_of_mem _ (List.mem_append_right _ h)
theorem jX9_steps_X9 : ∀ w ∈ u_ws RX9 TX9 29, w ∈ wsX9_steps := fun w h => List.mem_cons_of_mem _ (List.mem_append_right _ h)
theorem hdS_X9_east : yX9_east.cls ≠ "java/lang/invoke/MethodHandle" ∧ yX9_east.cls ≠ "java/lang/invoke/VarHandle" ∧ (parseMethodDescriptor yX9_east.desc).map (fun d => d.parameters.length) = some 1 := by decide +kernel
theorem hdS_X9_south : yX9_south.cls ≠ "java/lang/invoke/MethodHandle" ∧ yX9_south.cls ≠ "java/lang/invoke/VarHandle" ∧ (parseMethodDescriptor yX9_south.desc).map (fun d => d.parameters.length) = some 1 := by decide +kernel
theorem hdV_X9_firstShut : yX9_firstShut.cls = RX9 ∧ yX9_firstShut.cls ≠ "java/lang/invoke/MethodHandle" ∧ yX9_firstShut.cls ≠ "java/lang/invoke/VarHandle" ∧ (parseMethodDescriptor yX9_firstShut.desc).map (fun d => d.parameters.length) = some 2 := by decide +kernel
theorem hdV_X9_isCell : yX9_isCell.cls = RX9 ∧ yX9_isCell.cls ≠ "java/lang/invoke/MethodHandle" ∧ yX9_isCell.cls ≠ "java/lang/invoke/VarHandle" ∧ (parseMethodDescriptor yX9_isCell.desc).map (fun d => d.parameters.length) = some 1 := by decide +kernel
theorem hdV_X9_isIn : yX9_isIn.cls = RX9 ∧ yX9_isIn.cls ≠ "java/lang/invoke/MethodHandle" ∧ yX9_isIn.cls ≠ "java/lang/invoke/VarHandle" ∧ (parseMethodDescriptor yX9_isIn.desc).map (fun d => d.parameters.length) = some 2 := by decide +kernel
theorem hdV_X9_lookFrom : yX9_lookFrom.cls = RX9 ∧ yX9_lookFrom.cls ≠ "java/lang/invoke/MethodHandle" ∧ yX9_lookFrom.cls ≠ "java/lang/invoke/VarHandle" ∧ (parseMethodDescriptor yX9_lookFrom.desc).map (fun d => d.parameters.length) = some 2 := by decide +kernel
theorem hdV_X9_nextTo : yX9_nextTo.cls = RX9 ∧ yX9_nextTo.cls ≠ "java/lang/invoke/MethodHandle" ∧ yX9_nextTo.cls ≠ "java/lang/invoke/VarHandle" ∧ (parseMethodDescriptor yX9_nextTo.desc).map (fun d => d.parameters.length) = some 2 := by decide +kernel
theorem hdV_X9_of : yX9_of.cls = RX9 ∧ yX9_of.cls ≠ "java/lang/invoke/MethodHandle" ∧ yX9_of.cls ≠ "java/lang/invoke/VarHandle" ∧ (parseMethodDescriptor yX9_of.desc).map (fun d => d.parameters.length) = some 2 := by decide +kernel
theorem hdV_X9_ownerSeen : yX9_ownerSeen.cls = RX9 ∧ yX9_ownerSeen.cls ≠ "java/lang/invoke/MethodHandle" ∧ yX9_ownerSeen.cls ≠ "java/lang/invoke/VarHandle" ∧ (parseMethodDescriptor yX9_ownerSeen.desc).map (fun d => d.parameters.length) = some 0 := by decide +kernel
theorem hdV_X9_paysNow : yX9_paysNow.cls = RX9 ∧ yX9_paysNow.cls ≠ "java/lang/invoke/MethodHandle" ∧ yX9_paysNow.cls ≠ "java/lang/invoke/VarHandle" ∧ (parseMethodDescriptor yX9_paysNow.desc).map (fun d => d.parameters.length) = some 1 := by decide +kernel
theorem hdV_X9_priceSeen : yX9_priceSeen.cls = RX9 ∧ yX9_priceSeen.cls ≠ "java/lang/invoke/MethodHandle" ∧ yX9_priceSeen.cls ≠ "java/lang/invoke/VarHandle" ∧ (parseMethodDescriptor yX9_priceSeen.desc).map (fun d => d.parameters.length) = some 0 := by decide +kernel
set_option maxHeartbeats 4000000 in
set_option maxRecDepth 100000 in
theorem s_X9_isIn (l : Launch) (D : va_G) (cI cZ cC cS : ClassId) (sq : Nat → Nat) (sz : Nat) (y : Nat) (y_city : Nat) (a : Int32) (b : Int32) (m_thrown : Int32) (m_status : Int32) (y_lane : Nat) (y_many : Nat) (y_item : Nat) (y_fresh : Nat) (m_isThere : Int32) (y_tape : Nat) (m_taped : Int32) (m_latest : Int32) (m_length : Int32) (m_cursor : Int32) (m_token : Int32) (m_start : Int32) (m_till : Int32) (m_fault : Int32) (m_faultAt : Int32) (m_seen : Int32) (m_mirrors : Int32) (y_cost : Nat) (y_away : Nat) (y_fee : Nat) (y_goesTo : Nat) (y_priceWas : Nat) (y_isKept : Nat) (y_kept : Nat) (y_trace : Nat) (m_traced : Int32) (cy : Nat → Int32) (hpd_cy : prd cyK 192 cy) : mI l yX9_isIn wsX9_isIn 1 40 D (tyW cI cZ cC cS) sq [(y, .inr (9, [.int m_thrown, .int m_status, .ref y_lane, .ref y_many, .ref y_item, .ref y_city, .ref y_fresh, .int m_isThere, .ref y_tape, .int m_taped, .int m_latest, .int m_length, .int m_cursor, .int m_token, .int m_start, .int m_till, .int m_fault, .int m_faultAt, .int m_seen, .int m_mirrors, .ref y_cost, .ref y_away, .ref y_fee, .ref y_goesTo, .ref y_priceWas, .ref y_isKept, .ref y_kept, .ref y_trace, .int m_traced])), (y_city, .inl (cI, 192, .inl cy))] sz [.ref y, .int a, .int b] (fun r w => ((0 ≤ a.toInt ∧ a.toInt < (cy 0).toInt ∧ 0 ≤ b.toInt ∧ b.toInt < (cy 1).toInt ∧ a.toInt < 10 ∧ b.toInt < 8) ∧ r = 1 ∧ w = [(y, .inr (9, [.int m_thrown, .int m_status, .ref y_lane, .ref y_many, .ref y_item, .ref y_city, .ref y_fresh, .int m_isThere, .ref y_tape, .int m_taped, .int m_latest, .int m_length, .int m_cursor, .int m_token, .int m_start, .int m_till, .int m_fault, .int m_faultAt, .int m_seen, .int m_mirrors, .ref y_cost, .ref y_away, .ref y_fee, .ref y_goesTo, .ref y_priceWas, .ref y_isKept, .ref y_kept, .ref y_trace, .int m_traced])), (y_city, .inl (cI, 192, .inl cy))]) ∨ ((¬ (0 ≤ a.toInt ∧ a.toInt < (cy 0).toInt ∧ 0 ≤ b.toInt ∧ b.toInt < (cy 1).toInt)) ∧ r = 0 ∧ w = [(y, .inr (9, [.int m_thrown, .int m_status, .ref y_lane, .ref y_many, .ref y_item, .ref y_city, .ref y_fresh, .int m_isThere, .ref y_tape, .int m_taped, .int m_latest, .int m_length, .int m_cursor, .int m_token, .int m_start, .int m_till, .int m_fault, .int m_faultAt, .int m_seen, .int m_mirrors, .ref y_cost, .ref y_away, .ref y_fee, .ref y_goesTo, .ref y_priceWas, .ref y_isKept, .ref y_kept, .ref y_trace, .int m_traced])), (y_city, .inl (cI, 192, .inl cy))])) := by
  refine b_metI (cc := cX9_isIn) (maxL := 3) (ret := (some .boolean)) (by decide) rfl (Nat.le_of_ble_eq_true rfl) ?_
  intro p e s m below meth c ls A H X hsz hP hK hT hD hA hS hl
  have S : CallFix p m c cX9_isIn 3 s ([.ref y, .int a, .int b] : List Value).toArray wsX9_isIn RX9 := X.1
  have hl : lv_has ls 3 [(0, .ref y), (1, .int a), (2, .int b)] := hl
  have iX9 := jX9_isIn_X9
  refine lv_iload_n S.1 S.2.1 dX9_isIn_0 rfl (lv_at hl 1 rfl) ?_
  refine lv_i2l (v := a.toInt64) S.1 S.2.1 dX9_isIn_1 rfl ?_
  refine lv_lconst (v := 0) S.1 S.2.1 dX9_isIn_2 (by decide) ?_
  refine lv_aload_n S.1 S.2.1 dX9_isIn_3 rfl (lv_at hl 0 rfl) ?_
  refine b_get (v := .ref y_city) S iX9 hK hP 0 rfl rfl 5 (by decide) (by decide +kernel) rfl dX9_isIn_4 ?_
  refine lv_iconst (v := (0)) S.1 S.2.1 dX9_isIn_7 (by decide) ?_
  have hin_1 : vp_in (0 : Int32) 192 := (by unfold vp_in; decide)
  refine va_iald S.1 S.2.1 hK.1 hP 1 0 rfl rfl hin_1 dX9_isIn_8 ?_
  refine lv_topi (fun x_2 ex_2 => ?_)
  have tx_2 := cyg_W (x := x_2) (show prd cyK 192 cy by assumption) (by decide) ex_2
  have bx_2 : x_2.toInt = (cy 0).toInt := by rw [ex_2]; rfl
  refine lv_iconst (v := (1)) S.1 S.2.1 dX9_isIn_9 (by decide) ?_
  refine lv_isub S.1 S.2.1 dX9_isIn_10 ?_
  refine lv_topi (fun x_3 ex_3 => ?_)
  have tx_3 : x_3.toInt = x_2.toInt - (1) := subI (A := x_2.toInt) (B := 1) ex_3 rfl rfl (by  omega) (by  omega)
  refine lv_i2l (v := x_3.toInt64) S.1 S.2.1 dX9_isIn_11 rfl ?_
  refine b_ai (wr := [(y, .inr (9, [.int m_thrown, .int m_status, .ref y_lane, .ref y_many, .ref y_item, .ref y_city, .ref y_fresh, .int m_isThere, .ref y_tape, .int m_taped, .int m_latest, .int m_length, .int m_cursor, .int m_token, .int m_start, .int m_till, .int m_fault, .int m_faultAt, .int m_seen, .int m_mirrors, .ref y_cost, .ref y_away, .ref y_fee, .ref y_goesTo, .ref y_priceWas, .ref y_isKept, .ref y_kept, .ref y_trace, .int m_traced])), (y_city, .inl (cI, 192, .inl cy))]) (b_runS (As := [.long (a.toInt64), .long 0, .long (x_3.toInt64)]) (s_X9_in l D cI cZ cC cS sq H.size (a.toInt64) (0) (x_3.toInt64)) S gX9_isIn_X9_in rfl hdS_X9_in ⟨Nat.le_of_ble_eq_true rfl, Nat.le_of_ble_eq_true rfl⟩ ⟨Nat.le_of_ble_eq_true rfl, Nat.le_of_ble_eq_true rfl⟩ hK hT hS hA hP hD [] rfl (by decide) rfl hl.1 rfl (Nat.le_of_ble_eq_true rfl) dX9_isIn_12) hP hD hS hA [] [0, 1] rfl rfl (by decide) (by decide) (fun r_4 w_5 H locs hw_6 hP hD hS => ?_)
  rcases hw_6 with ⟨hf_7, rfl, rfl⟩ | ⟨hf_8, rfl, rfl⟩
  · have hf_7 : (0) ≤ a.toInt ∧ a.toInt ≤ x_3.toInt := by simp only [Int32.toInt_toInt64] at hf_7; exact hf_7
    have hP : va_P D vwCl [(y, .inr (9, [.int m_thrown, .int m_status, .ref y_lane, .ref y_many, .ref y_item, .ref y_city, .ref y_fresh, .int m_isThere, .ref y_tape, .int m_taped, .int m_latest, .int m_length, .int m_cursor, .int m_token, .int m_start, .int m_till, .int m_fault, .int m_faultAt, .int m_seen, .int m_mirrors, .ref y_cost, .ref y_away, .ref y_fee, .ref y_goesTo, .ref y_priceWas, .ref y_isKept, .ref y_kept, .ref y_trace, .int m_traced])), (y_city, .inl (cI, 192, .inl cy))] H := hP
    have hD : va_D A [(y, .inr (9, [.int m_thrown, .int m_status, .ref y_lane, .ref y_many, .ref y_item, .ref y_city, .ref y_fresh, .int m_isThere, .ref y_tape, .int m_taped, .int m_latest, .int m_length, .int m_cursor, .int m_token, .int m_start, .int m_till, .int m_fault, .int m_faultAt, .int m_seen, .int m_mirrors, .ref y_cost, .ref y_away, .ref y_fee, .ref y_goesTo, .ref y_priceWas, .ref y_isKept, .ref y_kept, .ref y_trace, .int m_traced])), (y_city, .inl (cI, 192, .inl cy))] := hD
    refine lv_if_eq (tgt := 40) S.1 S.2.1 dX9_isIn_15 (by decide) (fun c_9 => absurd c_9 (by decide)) (fun c_9 => ?_)
    refine lv_iload_n S.1 S.2.1 dX9_isIn_18 rfl (lv_at hl 2 rfl) ?_
    refine lv_i2l (v := b.toInt64) S.1 S.2.1 dX9_isIn_19 rfl ?_
    refine lv_lconst (v := 0) S.1 S.2.1 dX9_isIn_20 (by decide) ?_
    refine lv_aload_n S.1 S.2.1 dX9_isIn_21 rfl (lv_at hl 0 rfl) ?_
    refine b_get (v := .ref y_city) S iX9 hK hP 0 rfl rfl 5 (by decide) (by decide +kernel) rfl dX9_isIn_22 ?_
    refine lv_iconst (v := (1)) S.1 S.2.1 dX9_isIn_25 (by decide) ?_
    have hin_10 : vp_in (1 : Int32) 192 := (by unfold vp_in; decide)
    refine va_iald S.1 S.2.1 hK.1 hP 1 0 rfl rfl hin_10 dX9_isIn_26 ?_
    refine lv_topi (fun x_11 ex_11 => ?_)
    have tx_11 := cyg_H (x := x_11) (show prd cyK 192 cy by assumption) (by decide) ex_11
    have bx_11 : x_11.toInt = (cy 1).toInt := by rw [ex_11]; rfl
    refine lv_iconst (v := (1)) S.1 S.2.1 dX9_isIn_27 (by decide) ?_
    refine lv_isub S.1 S.2.1 dX9_isIn_28 ?_
    refine lv_topi (fun x_12 ex_12 => ?_)
    have tx_12 : x_12.toInt = x_11.toInt - (1) := subI (A := x_11.toInt) (B := 1) ex_12 rfl rfl (by  omega) (by  omega)
    refine lv_i2l (v := x_12.toInt64) S.1 S.2.1 dX9_isIn_29 rfl ?_
    refine b_ai (wr := [(y, .inr (9, [.int m_thrown, .int m_status, .ref y_lane, .ref y_many, .ref y_item, .ref y_city, .ref y_fresh, .int m_isThere, .ref y_tape, .int m_taped, .int m_latest, .int m_length, .int m_cursor, .int m_token, .int m_start, .int m_till, .int m_fault, .int m_faultAt, .int m_seen, .int m_mirrors, .ref y_cost, .ref y_away, .ref y_fee, .ref y_goesTo, .ref y_priceWas, .ref y_isKept, .ref y_kept, .ref y_trace, .int m_traced])), (y_city, .inl (cI, 192, .inl cy))]) (b_runS (As := [.long (b.toInt64), .long 0, .long (x_12.toInt64)]) (s_X9_in l D cI cZ cC cS sq H.size (b.toInt64) (0) (x_12.toInt64)) S gX9_isIn_X9_in rfl hdS_X9_in ⟨Nat.le_of_ble_eq_true rfl, Nat.le_of_ble_eq_true rfl⟩ ⟨Nat.le_of_ble_eq_true rfl, Nat.le_of_ble_eq_true rfl⟩ hK hT hS hA hP hD [] rfl (by decide) rfl hl.1 rfl (Nat.le_of_ble_eq_true rfl) dX9_isIn_30) hP hD hS hA [] [0, 1] rfl rfl (by decide) (by decide) (fun r_13 w_14 H locs hw_15 hP hD hS => ?_)
    rcases hw_15 with ⟨hf_16, rfl, rfl⟩ | ⟨hf_17, rfl, rfl⟩
    · have hf_16 : (0) ≤ b.toInt ∧ b.toInt ≤ x_12.toInt := by simp only [Int32.toInt_toInt64] at hf_16; exact hf_16
      have hP : va_P D vwCl [(y, .inr (9, [.int m_thrown, .int m_status, .ref y_lane, .ref y_many, .ref y_item, .ref y_city, .ref y_fresh, .int m_isThere, .ref y_tape, .int m_taped, .int m_latest, .int m_length, .int m_cursor, .int m_token, .int m_start, .int m_till, .int m_fault, .int m_faultAt, .int m_seen, .int m_mirrors, .ref y_cost, .ref y_away, .ref y_fee, .ref y_goesTo, .ref y_priceWas, .ref y_isKept, .ref y_kept, .ref y_trace, .int m_traced])), (y_city, .inl (cI, 192, .inl cy))] H := hP
      have hD : va_D A [(y, .inr (9, [.int m_thrown, .int m_status, .ref y_lane, .ref y_many, .ref y_item, .ref y_city, .ref y_fresh, .int m_isThere, .ref y_tape, .int m_taped, .int m_latest, .int m_length, .int m_cursor, .int m_token, .int m_start, .int m_till, .int m_fault, .int m_faultAt, .int m_seen, .int m_mirrors, .ref y_cost, .ref y_away, .ref y_fee, .ref y_goesTo, .ref y_priceWas, .ref y_isKept, .ref y_kept, .ref y_trace, .int m_traced])), (y_city, .inl (cI, 192, .inl cy))] := hD
      refine lv_if_eq (tgt := 40) S.1 S.2.1 dX9_isIn_33 (by decide) (fun c_18 => absurd c_18 (by decide)) (fun c_18 => ?_)
      refine lv_iconst (v := (1)) S.1 S.2.1 dX9_isIn_36 (by decide) ?_
      refine lv_goto (tgt := 41) S.1 S.2.1 dX9_isIn_37 (by decide) ?_
      exact b_zret S.1 S.2.1 X.2.1 X.2.2.1 rfl hP hD hS (Or.inl ⟨(by first | with_reducible assumption | (and_intros <;> first | with_reducible assumption | (intros; refine Int.le_antisymm ?_ ?_ <;> omega) | omega) | assumption | decide | (rw [show Int32.toInt 0 = 0 from rfl]; omega)), rfl, rfl⟩) dX9_isIn_41
    · have hf_17 : b.toInt < (0) ∨ x_12.toInt < b.toInt := by simp only [Int32.toInt_toInt64] at hf_17; exact hf_17
      have hP : va_P D vwCl [(y, .inr (9, [.int m_thrown, .int m_status, .ref y_lane, .ref y_many, .ref y_item, .ref y_city, .ref y_fresh, .int m_isThere, .ref y_tape, .int m_taped, .int m_latest, .int m_length, .int m_cursor, .int m_token, .int m_start, .int m_till, .int m_fault, .int m_faultAt, .int m_seen, .int m_mirrors, .ref y_cost, .ref y_away, .ref y_fee, .ref y_goesTo, .ref y_priceWas, .ref y_isKept, .ref y_kept, .ref y_trace, .int m_traced])), (y_city, .inl (cI, 192, .inl cy))] H := hP
      have hD : va_D A [(y, .inr (9, [.int m_thrown, .int m_status, .ref y_lane, .ref y_many, .ref y_item, .ref y_city, .ref y_fresh, .int m_isThere, .ref y_tape, .int m_taped, .int m_latest, .int m_length, .int m_cursor, .int m_token, .int m_start, .int m_till, .int m_fault, .int m_faultAt, .int m_seen, .int m_mirrors, .ref y_cost, .ref y_away, .ref y_fee, .ref y_goesTo, .ref y_priceWas, .ref y_isKept, .ref y_kept, .ref y_trace, .int m_traced])), (y_city, .inl (cI, 192, .inl cy))] := hD
      refine lv_if_eq (tgt := 40) S.1 S.2.1 dX9_isIn_33 (by decide) (fun c_19 => ?_) (fun c_19 => absurd c_19 (by decide))
      refine lv_iconst (v := (0)) S.1 S.2.1 dX9_isIn_40 (by decide) ?_
      exact b_zret S.1 S.2.1 X.2.1 X.2.2.1 rfl hP hD hS (Or.inr (⟨(by first | with_reducible assumption | (and_intros <;> first | with_reducible assumption | (intros; refine Int.le_antisymm ?_ ?_ <;> omega) | omega) | assumption | decide | (rw [show Int32.toInt 0 = 0 from rfl]; omega)), rfl, rfl⟩)) dX9_isIn_41
  · have hf_8 : a.toInt < (0) ∨ x_3.toInt < a.toInt := by simp only [Int32.toInt_toInt64] at hf_8; exact hf_8
    have hP : va_P D vwCl [(y, .inr (9, [.int m_thrown, .int m_status, .ref y_lane, .ref y_many, .ref y_item, .ref y_city, .ref y_fresh, .int m_isThere, .ref y_tape, .int m_taped, .int m_latest, .int m_length, .int m_cursor, .int m_token, .int m_start, .int m_till, .int m_fault, .int m_faultAt, .int m_seen, .int m_mirrors, .ref y_cost, .ref y_away, .ref y_fee, .ref y_goesTo, .ref y_priceWas, .ref y_isKept, .ref y_kept, .ref y_trace, .int m_traced])), (y_city, .inl (cI, 192, .inl cy))] H := hP
    have hD : va_D A [(y, .inr (9, [.int m_thrown, .int m_status, .ref y_lane, .ref y_many, .ref y_item, .ref y_city, .ref y_fresh, .int m_isThere, .ref y_tape, .int m_taped, .int m_latest, .int m_length, .int m_cursor, .int m_token, .int m_start, .int m_till, .int m_fault, .int m_faultAt, .int m_seen, .int m_mirrors, .ref y_cost, .ref y_away, .ref y_fee, .ref y_goesTo, .ref y_priceWas, .ref y_isKept, .ref y_kept, .ref y_trace, .int m_traced])), (y_city, .inl (cI, 192, .inl cy))] := hD
    refine lv_if_eq (tgt := 40) S.1 S.2.1 dX9_isIn_15 (by decide) (fun c_20 => ?_) (fun c_20 => absurd c_20 (by decide))
    refine lv_iconst (v := (0)) S.1 S.2.1 dX9_isIn_40 (by decide) ?_
    exact b_zret S.1 S.2.1 X.2.1 X.2.2.1 rfl hP hD hS (Or.inr (⟨(by first | with_reducible assumption | (and_intros <;> first | with_reducible assumption | (intros; refine Int.le_antisymm ?_ ?_ <;> omega) | omega) | assumption | decide | (rw [show Int32.toInt 0 = 0 from rfl]; omega)), rfl, rfl⟩)) dX9_isIn_41
set_option maxHeartbeats 4000000 in
set_option maxRecDepth 100000 in
theorem s_X9_isCell (l : Launch) (D : va_G) (cI cZ cC cS : ClassId) (sq : Nat → Nat) (sz : Nat) (y : Nat) (y_city : Nat) (k : Int32) (m_thrown : Int32) (m_status : Int32) (y_lane : Nat) (y_many : Nat) (y_item : Nat) (y_fresh : Nat) (m_isThere : Int32) (y_tape : Nat) (m_taped : Int32) (m_latest : Int32) (m_length : Int32) (m_cursor : Int32) (m_token : Int32) (m_start : Int32) (m_till : Int32) (m_fault : Int32) (m_faultAt : Int32) (m_seen : Int32) (m_mirrors : Int32) (y_cost : Nat) (y_away : Nat) (y_fee : Nat) (y_goesTo : Nat) (y_priceWas : Nat) (y_isKept : Nat) (y_kept : Nat) (y_trace : Nat) (m_traced : Int32) (cy : Nat → Int32) (hpd_cy : prd cyK 192 cy) : mI l yX9_isCell wsX9_isCell 2 80 D (tyW cI cZ cC cS) sq [(y, .inr (9, [.int m_thrown, .int m_status, .ref y_lane, .ref y_many, .ref y_item, .ref y_city, .ref y_fresh, .int m_isThere, .ref y_tape, .int m_taped, .int m_latest, .int m_length, .int m_cursor, .int m_token, .int m_start, .int m_till, .int m_fault, .int m_faultAt, .int m_seen, .int m_mirrors, .ref y_cost, .ref y_away, .ref y_fee, .ref y_goesTo, .ref y_priceWas, .ref y_isKept, .ref y_kept, .ref y_trace, .int m_traced])), (y_city, .inl (cI, 192, .inl cy))] sz [.ref y, .int k] (fun r w => ((0 ≤ k.toInt ∧ k.toInt < 80 ∧ k.toInt % 10 < (cy 0).toInt ∧ k.toInt / 10 < (cy 1).toInt) ∧ r = 1 ∧ w = [(y, .inr (9, [.int m_thrown, .int m_status, .ref y_lane, .ref y_many, .ref y_item, .ref y_city, .ref y_fresh, .int m_isThere, .ref y_tape, .int m_taped, .int m_latest, .int m_length, .int m_cursor, .int m_token, .int m_start, .int m_till, .int m_fault, .int m_faultAt, .int m_seen, .int m_mirrors, .ref y_cost, .ref y_away, .ref y_fee, .ref y_goesTo, .ref y_priceWas, .ref y_isKept, .ref y_kept, .ref y_trace, .int m_traced])), (y_city, .inl (cI, 192, .inl cy))]) ∨ ((¬ (0 ≤ k.toInt ∧ k.toInt < 80 ∧ k.toInt % 10 < (cy 0).toInt ∧ k.toInt / 10 < (cy 1).toInt)) ∧ r = 0 ∧ w = [(y, .inr (9, [.int m_thrown, .int m_status, .ref y_lane, .ref y_many, .ref y_item, .ref y_city, .ref y_fresh, .int m_isThere, .ref y_tape, .int m_taped, .int m_latest, .int m_length, .int m_cursor, .int m_token, .int m_start, .int m_till, .int m_fault, .int m_faultAt, .int m_seen, .int m_mirrors, .ref y_cost, .ref y_away, .ref y_fee, .ref y_goesTo, .ref y_priceWas, .ref y_isKept, .ref y_kept, .ref y_trace, .int m_traced])), (y_city, .inl (cI, 192, .inl cy))])) := by
  refine b_metI (cc := cX9_isCell) (maxL := 2) (ret := (some .boolean)) (by decide) rfl (Nat.le_of_ble_eq_true rfl) ?_
  intro p e s m below meth c ls A H X hsz hP hK hT hD hA hS hl
  have S : CallFix p m c cX9_isCell 2 s ([.ref y, .int k] : List Value).toArray wsX9_isCell RX9 := X.1
  have hl : lv_has ls 2 [(0, .ref y), (1, .int k)] := hl
  refine lv_iload_n S.1 S.2.1 dX9_isCell_0 rfl (lv_at hl 1 rfl) ?_
  refine lv_i2l (v := k.toInt64) S.1 S.2.1 dX9_isCell_1 rfl ?_
  refine lv_lconst (v := 0) S.1 S.2.1 dX9_isCell_2 (by decide) ?_
  refine lv_ldc2 (v := (79)) S.1 S.2.1 S.2.2.2.1 (S.2.2.2.2 (.constantLong RX9 189 (79)) (by decide +kernel)) dX9_isCell_3 ?_
  refine b_ai (wr := [(y, .inr (9, [.int m_thrown, .int m_status, .ref y_lane, .ref y_many, .ref y_item, .ref y_city, .ref y_fresh, .int m_isThere, .ref y_tape, .int m_taped, .int m_latest, .int m_length, .int m_cursor, .int m_token, .int m_start, .int m_till, .int m_fault, .int m_faultAt, .int m_seen, .int m_mirrors, .ref y_cost, .ref y_away, .ref y_fee, .ref y_goesTo, .ref y_priceWas, .ref y_isKept, .ref y_kept, .ref y_trace, .int m_traced])), (y_city, .inl (cI, 192, .inl cy))]) (b_runS (As := [.long (k.toInt64), .long 0, .long 79]) (s_X9_in l D cI cZ cC cS sq H.size (k.toInt64) (0) (79)) S gX9_isCell_X9_in rfl hdS_X9_in ⟨Nat.le_of_ble_eq_true rfl, Nat.le_of_ble_eq_true rfl⟩ ⟨Nat.le_of_ble_eq_true rfl, Nat.le_of_ble_eq_true rfl⟩ hK hT hS hA hP hD [] rfl (by decide) rfl hl.1 rfl (Nat.le_of_ble_eq_true rfl) dX9_isCell_6) hP hD hS hA [] [0, 1] rfl rfl (by decide) (by decide) (fun r_1 w_2 H locs hw_3 hP hD hS => ?_)
  rcases hw_3 with ⟨hf_4, rfl, rfl⟩ | ⟨hf_5, rfl, rfl⟩
  · have hf_4 : (0) ≤ k.toInt ∧ k.toInt ≤ (79) := by simp only [Int32.toInt_toInt64] at hf_4; exact hf_4
    have hP : va_P D vwCl [(y, .inr (9, [.int m_thrown, .int m_status, .ref y_lane, .ref y_many, .ref y_item, .ref y_city, .ref y_fresh, .int m_isThere, .ref y_tape, .int m_taped, .int m_latest, .int m_length, .int m_cursor, .int m_token, .int m_start, .int m_till, .int m_fault, .int m_faultAt, .int m_seen, .int m_mirrors, .ref y_cost, .ref y_away, .ref y_fee, .ref y_goesTo, .ref y_priceWas, .ref y_isKept, .ref y_kept, .ref y_trace, .int m_traced])), (y_city, .inl (cI, 192, .inl cy))] H := hP
    have hD : va_D A [(y, .inr (9, [.int m_thrown, .int m_status, .ref y_lane, .ref y_many, .ref y_item, .ref y_city, .ref y_fresh, .int m_isThere, .ref y_tape, .int m_taped, .int m_latest, .int m_length, .int m_cursor, .int m_token, .int m_start, .int m_till, .int m_fault, .int m_faultAt, .int m_seen, .int m_mirrors, .ref y_cost, .ref y_away, .ref y_fee, .ref y_goesTo, .ref y_priceWas, .ref y_isKept, .ref y_kept, .ref y_trace, .int m_traced])), (y_city, .inl (cI, 192, .inl cy))] := hD
    refine lv_if_eq (tgt := 31) S.1 S.2.1 dX9_isCell_9 (by decide) (fun c_6 => absurd c_6 (by decide)) (fun c_6 => ?_)
    refine lv_aload_n S.1 S.2.1 dX9_isCell_12 rfl (lv_at hl 0 rfl) ?_
    refine lv_iload_n S.1 S.2.1 dX9_isCell_13 rfl (lv_at hl 1 rfl) ?_
    refine lv_bipush (v := (10)) S.1 S.2.1 dX9_isCell_14 (by decide) ?_
    refine lv_irem S.1 S.2.1 dX9_isCell_16 (by decide) ?_
    refine lv_topi (fun x_7 ex_7 => ?_)
    have tx_7 : x_7.toInt = k.toInt % 10 := remI (A := k.toInt) (B := 10) ex_7 rfl rfl (by  omega) (by decide)
    refine lv_iload_n S.1 S.2.1 dX9_isCell_17 rfl (lv_at hl 1 rfl) ?_
    refine lv_bipush (v := (10)) S.1 S.2.1 dX9_isCell_18 (by decide) ?_
    refine lv_idiv S.1 S.2.1 dX9_isCell_20 (by decide) ?_
    refine lv_topi (fun x_8 ex_8 => ?_)
    have tx_8 : x_8.toInt = k.toInt / 10 := divI (A := k.toInt) (B := 10) ex_8 rfl rfl (by  omega) (by decide)
    refine b_ai (wr := []) (b_runV (q0 := 0) (ci := 9) (As := [.int x_7, .int x_8]) (s_X9_isIn l D cI cZ cC cS sq H.size y y_city x_7 x_8 m_thrown m_status y_lane y_many y_item y_fresh m_isThere y_tape m_taped m_latest m_length m_cursor m_token m_start m_till m_fault m_faultAt m_seen m_mirrors y_cost y_away y_fee y_goesTo y_priceWas y_isKept y_kept y_trace m_traced cy (by first | with_reducible assumption | assumption | omega | decide | (rw [show Int32.toInt 0 = 0 from rfl]; omega))) S gX9_isCell_X9_isIn rfl hdV_X9_isIn ⟨Nat.le_of_ble_eq_true rfl, Nat.le_of_ble_eq_true rfl⟩ ⟨Nat.le_of_ble_eq_true rfl, Nat.le_of_ble_eq_true rfl⟩ hK hT hS hA hP hD rfl rfl [0, 1] rfl (by decide) rfl hl.1 rfl (Nat.le_of_ble_eq_true rfl) dX9_isCell_21) hP hD hS hA [0, 1] [] rfl rfl (by decide) (by decide) (fun r_9 w_10 H locs hw_11 hP hD hS => ?_)
    rcases hw_11 with ⟨hf_12, rfl, rfl⟩ | ⟨hf_13, rfl, rfl⟩
    · have hP : va_P D vwCl [(y, .inr (9, [.int m_thrown, .int m_status, .ref y_lane, .ref y_many, .ref y_item, .ref y_city, .ref y_fresh, .int m_isThere, .ref y_tape, .int m_taped, .int m_latest, .int m_length, .int m_cursor, .int m_token, .int m_start, .int m_till, .int m_fault, .int m_faultAt, .int m_seen, .int m_mirrors, .ref y_cost, .ref y_away, .ref y_fee, .ref y_goesTo, .ref y_priceWas, .ref y_isKept, .ref y_kept, .ref y_trace, .int m_traced])), (y_city, .inl (cI, 192, .inl cy))] H := hP
      have hD : va_D A [(y, .inr (9, [.int m_thrown, .int m_status, .ref y_lane, .ref y_many, .ref y_item, .ref y_city, .ref y_fresh, .int m_isThere, .ref y_tape, .int m_taped, .int m_latest, .int m_length, .int m_cursor, .int m_token, .int m_start, .int m_till, .int m_fault, .int m_faultAt, .int m_seen, .int m_mirrors, .ref y_cost, .ref y_away, .ref y_fee, .ref y_goesTo, .ref y_priceWas, .ref y_isKept, .ref y_kept, .ref y_trace, .int m_traced])), (y_city, .inl (cI, 192, .inl cy))] := hD
      refine lv_if_eq (tgt := 31) S.1 S.2.1 dX9_isCell_24 (by decide) (fun c_14 => absurd c_14 (by decide)) (fun c_14 => ?_)
      refine lv_iconst (v := (1)) S.1 S.2.1 dX9_isCell_27 (by decide) ?_
      refine lv_goto (tgt := 32) S.1 S.2.1 dX9_isCell_28 (by decide) ?_
      exact b_zret S.1 S.2.1 X.2.1 X.2.2.1 rfl hP hD hS (Or.inl ⟨(by first | with_reducible assumption | (and_intros <;> first | with_reducible assumption | (intros; refine Int.le_antisymm ?_ ?_ <;> omega) | omega) | assumption | decide | (rw [show Int32.toInt 0 = 0 from rfl]; omega)), rfl, rfl⟩) dX9_isCell_32
    · have hP : va_P D vwCl [(y, .inr (9, [.int m_thrown, .int m_status, .ref y_lane, .ref y_many, .ref y_item, .ref y_city, .ref y_fresh, .int m_isThere, .ref y_tape, .int m_taped, .int m_latest, .int m_length, .int m_cursor, .int m_token, .int m_start, .int m_till, .int m_fault, .int m_faultAt, .int m_seen, .int m_mirrors, .ref y_cost, .ref y_away, .ref y_fee, .ref y_goesTo, .ref y_priceWas, .ref y_isKept, .ref y_kept, .ref y_trace, .int m_traced])), (y_city, .inl (cI, 192, .inl cy))] H := hP
      have hD : va_D A [(y, .inr (9, [.int m_thrown, .int m_status, .ref y_lane, .ref y_many, .ref y_item, .ref y_city, .ref y_fresh, .int m_isThere, .ref y_tape, .int m_taped, .int m_latest, .int m_length, .int m_cursor, .int m_token, .int m_start, .int m_till, .int m_fault, .int m_faultAt, .int m_seen, .int m_mirrors, .ref y_cost, .ref y_away, .ref y_fee, .ref y_goesTo, .ref y_priceWas, .ref y_isKept, .ref y_kept, .ref y_trace, .int m_traced])), (y_city, .inl (cI, 192, .inl cy))] := hD
      refine lv_if_eq (tgt := 31) S.1 S.2.1 dX9_isCell_24 (by decide) (fun c_15 => ?_) (fun c_15 => absurd c_15 (by decide))
      refine lv_iconst (v := (0)) S.1 S.2.1 dX9_isCell_31 (by decide) ?_
      exact b_zret S.1 S.2.1 X.2.1 X.2.2.1 rfl hP hD hS (Or.inr (⟨(by first | with_reducible assumption | (and_intros <;> first | with_reducible assumption | (intros; refine Int.le_antisymm ?_ ?_ <;> omega) | omega) | assumption | decide | (rw [show Int32.toInt 0 = 0 from rfl]; omega)), rfl, rfl⟩)) dX9_isCell_32
  · have hf_5 : k.toInt < (0) ∨ (79) < k.toInt := by simp only [Int32.toInt_toInt64] at hf_5; exact hf_5
    have hP : va_P D vwCl [(y, .inr (9, [.int m_thrown, .int m_status, .ref y_lane, .ref y_many, .ref y_item, .ref y_city, .ref y_fresh, .int m_isThere, .ref y_tape, .int m_taped, .int m_latest, .int m_length, .int m_cursor, .int m_token, .int m_start, .int m_till, .int m_fault, .int m_faultAt, .int m_seen, .int m_mirrors, .ref y_cost, .ref y_away, .ref y_fee, .ref y_goesTo, .ref y_priceWas, .ref y_isKept, .ref y_kept, .ref y_trace, .int m_traced])), (y_city, .inl (cI, 192, .inl cy))] H := hP
    have hD : va_D A [(y, .inr (9, [.int m_thrown, .int m_status, .ref y_lane, .ref y_many, .ref y_item, .ref y_city, .ref y_fresh, .int m_isThere, .ref y_tape, .int m_taped, .int m_latest, .int m_length, .int m_cursor, .int m_token, .int m_start, .int m_till, .int m_fault, .int m_faultAt, .int m_seen, .int m_mirrors, .ref y_cost, .ref y_away, .ref y_fee, .ref y_goesTo, .ref y_priceWas, .ref y_isKept, .ref y_kept, .ref y_trace, .int m_traced])), (y_city, .inl (cI, 192, .inl cy))] := hD
    refine lv_if_eq (tgt := 31) S.1 S.2.1 dX9_isCell_9 (by decide) (fun c_16 => ?_) (fun c_16 => absurd c_16 (by decide))
    refine lv_iconst (v := (0)) S.1 S.2.1 dX9_isCell_31 (by decide) ?_
    exact b_zret S.1 S.2.1 X.2.1 X.2.2.1 rfl hP hD hS (Or.inr (⟨(by first | with_reducible assumption | (and_intros <;> first | with_reducible assumption | (intros; refine Int.le_antisymm ?_ ?_ <;> omega) | omega) | assumption | decide | (rw [show Int32.toInt 0 = 0 from rfl]; omega)), rfl, rfl⟩)) dX9_isCell_32
set_option maxHeartbeats 4000000 in
set_option maxRecDepth 100000 in
theorem s_X9_isOpen (l : Launch) (D : va_G) (cI cZ cC cS : ClassId) (sq : Nat → Nat) (sz : Nat) (y : Nat) (y_city : Nat) (k : Int32) (m_thrown : Int32) (m_status : Int32) (y_lane : Nat) (y_many : Nat) (y_item : Nat) (y_fresh : Nat) (m_isThere : Int32) (y_tape : Nat) (m_taped : Int32) (m_latest : Int32) (m_length : Int32) (m_cursor : Int32) (m_token : Int32) (m_start : Int32) (m_till : Int32) (m_fault : Int32) (m_faultAt : Int32) (m_seen : Int32) (m_mirrors : Int32) (y_cost : Nat) (y_away : Nat) (y_fee : Nat) (y_goesTo : Nat) (y_priceWas : Nat) (y_isKept : Nat) (y_kept : Nat) (y_trace : Nat) (m_traced : Int32) (cy : Nat → Int32) (hpd_cy : prd cyK 192 cy) : mI l yX9_isOpen wsX9_isOpen 3 120 D (tyW cI cZ cC cS) sq [(y, .inr (9, [.int m_thrown, .int m_status, .ref y_lane, .ref y_many, .ref y_item, .ref y_city, .ref y_fresh, .int m_isThere, .ref y_tape, .int m_taped, .int m_latest, .int m_length, .int m_cursor, .int m_token, .int m_start, .int m_till, .int m_fault, .int m_faultAt, .int m_seen, .int m_mirrors, .ref y_cost, .ref y_away, .ref y_fee, .ref y_goesTo, .ref y_priceWas, .ref y_isKept, .ref y_kept, .ref y_trace, .int m_traced])), (y_city, .inl (cI, 192, .inl cy))] sz [.ref y, .int k] (fun r w => ((0 ≤ k.toInt ∧ k.toInt < 80) ∧ (opn cy k.toInt) ∧ r = 1 ∧ w = [(y, .inr (9, [.int m_thrown, .int m_status, .ref y_lane, .ref y_many, .ref y_item, .ref y_city, .ref y_fresh, .int m_isThere, .ref y_tape, .int m_taped, .int m_latest, .int m_length, .int m_cursor, .int m_token, .int m_start, .int m_till, .int m_fault, .int m_faultAt, .int m_seen, .int m_mirrors, .ref y_cost, .ref y_away, .ref y_fee, .ref y_goesTo, .ref y_priceWas, .ref y_isKept, .ref y_kept, .ref y_trace, .int m_traced])), (y_city, .inl (cI, 192, .inl cy))]) ∨ ((¬ opn cy k.toInt) ∧ r = 0 ∧ w = [(y, .inr (9, [.int m_thrown, .int m_status, .ref y_lane, .ref y_many, .ref y_item, .ref y_city, .ref y_fresh, .int m_isThere, .ref y_tape, .int m_taped, .int m_latest, .int m_length, .int m_cursor, .int m_token, .int m_start, .int m_till, .int m_fault, .int m_faultAt, .int m_seen, .int m_mirrors, .ref y_cost, .ref y_away, .ref y_fee, .ref y_goesTo, .ref y_priceWas, .ref y_isKept, .ref y_kept, .ref y_trace, .int m_traced])), (y_city, .inl (cI, 192, .inl cy))])) := by
  refine b_metI (cc := cX9_isOpen) (maxL := 2) (ret := (some .boolean)) (by decide) rfl (Nat.le_of_ble_eq_true rfl) ?_
  intro p e s m below meth c ls A H X hsz hP hK hT hD hA hS hl
  have S : CallFix p m c cX9_isOpen 2 s ([.ref y, .int k] : List Value).toArray wsX9_isOpen RX9 := X.1
  have hl : lv_has ls 2 [(0, .ref y), (1, .int k)] := hl
  have iX9 := jX9_isOpen_X9
  refine lv_aload_n S.1 S.2.1 dX9_isOpen_0 rfl (lv_at hl 0 rfl) ?_
  refine lv_iload_n S.1 S.2.1 dX9_isOpen_1 rfl (lv_at hl 1 rfl) ?_
  refine b_ai (wr := []) (b_runV (q0 := 0) (ci := 9) (As := [.int k]) (s_X9_isCell l D cI cZ cC cS sq H.size y y_city k m_thrown m_status y_lane y_many y_item y_fresh m_isThere y_tape m_taped m_latest m_length m_cursor m_token m_start m_till m_fault m_faultAt m_seen m_mirrors y_cost y_away y_fee y_goesTo y_priceWas y_isKept y_kept y_trace m_traced cy (by first | with_reducible assumption | assumption | omega | decide | (rw [show Int32.toInt 0 = 0 from rfl]; omega))) S gX9_isOpen_X9_isCell rfl hdV_X9_isCell ⟨Nat.le_of_ble_eq_true rfl, Nat.le_of_ble_eq_true rfl⟩ ⟨Nat.le_of_ble_eq_true rfl, Nat.le_of_ble_eq_true rfl⟩ hK hT hS hA hP hD rfl rfl [0, 1] rfl (by decide) rfl hl.1 rfl (Nat.le_of_ble_eq_true rfl) dX9_isOpen_2) hP hD hS hA [0, 1] [] rfl rfl (by decide) (by decide) (fun r_1 w_2 H locs hw_3 hP hD hS => ?_)
  rcases hw_3 with ⟨hf_4, rfl, rfl⟩ | ⟨hf_5, rfl, rfl⟩
  · have hP : va_P D vwCl [(y, .inr (9, [.int m_thrown, .int m_status, .ref y_lane, .ref y_many, .ref y_item, .ref y_city, .ref y_fresh, .int m_isThere, .ref y_tape, .int m_taped, .int m_latest, .int m_length, .int m_cursor, .int m_token, .int m_start, .int m_till, .int m_fault, .int m_faultAt, .int m_seen, .int m_mirrors, .ref y_cost, .ref y_away, .ref y_fee, .ref y_goesTo, .ref y_priceWas, .ref y_isKept, .ref y_kept, .ref y_trace, .int m_traced])), (y_city, .inl (cI, 192, .inl cy))] H := hP
    have hD : va_D A [(y, .inr (9, [.int m_thrown, .int m_status, .ref y_lane, .ref y_many, .ref y_item, .ref y_city, .ref y_fresh, .int m_isThere, .ref y_tape, .int m_taped, .int m_latest, .int m_length, .int m_cursor, .int m_token, .int m_start, .int m_till, .int m_fault, .int m_faultAt, .int m_seen, .int m_mirrors, .ref y_cost, .ref y_away, .ref y_fee, .ref y_goesTo, .ref y_priceWas, .ref y_isKept, .ref y_kept, .ref y_trace, .int m_traced])), (y_city, .inl (cI, 192, .inl cy))] := hD
    refine lv_if_eq (tgt := 25) S.1 S.2.1 dX9_isOpen_5 (by decide) (fun c_6 => absurd c_6 (by decide)) (fun c_6 => ?_)
    refine lv_aload_n S.1 S.2.1 dX9_isOpen_8 rfl (lv_at hl 0 rfl) ?_
    refine b_get (v := .ref y_city) S iX9 hK hP 0 rfl rfl 5 (by decide) (by decide +kernel) rfl dX9_isOpen_9 ?_
    refine lv_iconst (v := (4)) S.1 S.2.1 dX9_isOpen_12 (by decide) ?_
    refine lv_iload_n S.1 S.2.1 dX9_isOpen_13 rfl (lv_at hl 1 rfl) ?_
    refine lv_iadd S.1 S.2.1 dX9_isOpen_14 ?_
    refine lv_topi (fun x_7 ex_7 => ?_)
    have tx_7 : x_7.toInt = 4 + (k.toInt) := addI (A := 4) (B := k.toInt) ex_7 rfl rfl (by  omega) (by  omega)
    have hin_8 : vp_in x_7 192 := (in_of (n := 192) (by  omega) (by  omega))
    refine va_iald S.1 S.2.1 hK.1 hP 1 0 rfl rfl hin_8 dX9_isOpen_15 ?_
    refine lv_topi (fun x_9 ex_9 => ?_)
    have tx_9 := cyg_A (x := x_9) (show prd cyK 192 cy by assumption) (by first | (refine Int.le_antisymm ?_ ?_ <;> omega) | omega) ex_9
    have bx_9 : x_9.toInt = (cy (4 + k.toInt.toNat)).toInt := by rw [ex_9, show (x_7).toNatClampNeg = 4 + k.toInt.toNat from by show (x_7).toInt.toNat = _; omega]
    refine lv_bipush (v := (-3)) S.1 S.2.1 dX9_isOpen_16 (by decide) ?_
    refine lv_icmp_ne (tgt := 25) S.1 S.2.1 dX9_isOpen_18 (by decide) (fun c_10 => ?_) (fun c_10 => ?_)
    · rw [eq2 (a := x_9) (b := (-3)) (A := x_9.toInt) (B := -3) rfl rfl] at c_10
      refine lv_iconst (v := (0)) S.1 S.2.1 dX9_isOpen_25 (by decide) ?_
      exact b_zret S.1 S.2.1 X.2.1 X.2.2.1 rfl hP hD hS (Or.inr (⟨(by unfold opn; omega), rfl, rfl⟩)) dX9_isOpen_26
    · rw [eq2 (a := x_9) (b := (-3)) (A := x_9.toInt) (B := -3) rfl rfl] at c_10
      refine lv_iconst (v := (1)) S.1 S.2.1 dX9_isOpen_21 (by decide) ?_
      refine lv_goto (tgt := 26) S.1 S.2.1 dX9_isOpen_22 (by decide) ?_
      exact b_zret S.1 S.2.1 X.2.1 X.2.2.1 rfl hP hD hS (Or.inl ⟨(by first | with_reducible assumption | (and_intros <;> first | with_reducible assumption | (intros; refine Int.le_antisymm ?_ ?_ <;> omega) | omega) | assumption | decide | (rw [show Int32.toInt 0 = 0 from rfl]; omega)), (by unfold opn; omega), rfl, rfl⟩) dX9_isOpen_26
  · have hP : va_P D vwCl [(y, .inr (9, [.int m_thrown, .int m_status, .ref y_lane, .ref y_many, .ref y_item, .ref y_city, .ref y_fresh, .int m_isThere, .ref y_tape, .int m_taped, .int m_latest, .int m_length, .int m_cursor, .int m_token, .int m_start, .int m_till, .int m_fault, .int m_faultAt, .int m_seen, .int m_mirrors, .ref y_cost, .ref y_away, .ref y_fee, .ref y_goesTo, .ref y_priceWas, .ref y_isKept, .ref y_kept, .ref y_trace, .int m_traced])), (y_city, .inl (cI, 192, .inl cy))] H := hP
    have hD : va_D A [(y, .inr (9, [.int m_thrown, .int m_status, .ref y_lane, .ref y_many, .ref y_item, .ref y_city, .ref y_fresh, .int m_isThere, .ref y_tape, .int m_taped, .int m_latest, .int m_length, .int m_cursor, .int m_token, .int m_start, .int m_till, .int m_fault, .int m_faultAt, .int m_seen, .int m_mirrors, .ref y_cost, .ref y_away, .ref y_fee, .ref y_goesTo, .ref y_priceWas, .ref y_isKept, .ref y_kept, .ref y_trace, .int m_traced])), (y_city, .inl (cI, 192, .inl cy))] := hD
    refine lv_if_eq (tgt := 25) S.1 S.2.1 dX9_isOpen_5 (by decide) (fun c_11 => ?_) (fun c_11 => absurd c_11 (by decide))
    refine lv_iconst (v := (0)) S.1 S.2.1 dX9_isOpen_25 (by decide) ?_
    exact b_zret S.1 S.2.1 X.2.1 X.2.2.1 rfl hP hD hS (Or.inr (⟨(by unfold opn; omega), rfl, rfl⟩)) dX9_isOpen_26
set_option maxHeartbeats 4000000 in
set_option maxRecDepth 100000 in
theorem s_X9_nextTo (l : Launch) (D : va_G) (cI cZ cC cS : ClassId) (sq : Nat → Nat) (sz : Nat) (y : Nat) (y_city : Nat) (k : Int32) (wy : Int32) (m_thrown : Int32) (m_status : Int32) (y_lane : Nat) (y_many : Nat) (y_item : Nat) (y_fresh : Nat) (m_isThere : Int32) (y_tape : Nat) (m_taped : Int32) (m_latest : Int32) (m_length : Int32) (m_cursor : Int32) (m_token : Int32) (m_start : Int32) (m_till : Int32) (m_fault : Int32) (m_faultAt : Int32) (m_seen : Int32) (m_mirrors : Int32) (y_cost : Nat) (y_away : Nat) (y_fee : Nat) (y_goesTo : Nat) (y_priceWas : Nat) (y_isKept : Nat) (y_kept : Nat) (y_trace : Nat) (m_traced : Int32) (cy : Nat → Int32) (hpd_cy : prd cyK 192 cy) (hk : 0 ≤ k.toInt ∧ k.toInt < 80) (hy : 0 ≤ wy.toInt ∧ wy.toInt < 8) : mI l yX9_nextTo wsX9_nextTo 2 80 D (tyW cI cZ cC cS) sq [(y, .inr (9, [.int m_thrown, .int m_status, .ref y_lane, .ref y_many, .ref y_item, .ref y_city, .ref y_fresh, .int m_isThere, .ref y_tape, .int m_taped, .int m_latest, .int m_length, .int m_cursor, .int m_token, .int m_start, .int m_till, .int m_fault, .int m_faultAt, .int m_seen, .int m_mirrors, .ref y_cost, .ref y_away, .ref y_fee, .ref y_goesTo, .ref y_priceWas, .ref y_isKept, .ref y_kept, .ref y_trace, .int m_traced])), (y_city, .inl (cI, 192, .inl cy))] sz [.ref y, .int k, .int wy] (fun r w => ((0 ≤ r.toInt ∧ r.toInt < 80 ∧ ((2 ≤ wy.toInt ∧ wy.toInt ≤ 5 ∧ k.toInt < r.toInt) ∨ ((wy.toInt ≤ 1 ∨ 6 ≤ wy.toInt) ∧ r.toInt < k.toInt))) ∧ (r.toInt = nbT (cy 0).toInt (cy 1).toInt k.toInt wy.toInt) ∧ w = [(y, .inr (9, [.int m_thrown, .int m_status, .ref y_lane, .ref y_many, .ref y_item, .ref y_city, .ref y_fresh, .int m_isThere, .ref y_tape, .int m_taped, .int m_latest, .int m_length, .int m_cursor, .int m_token, .int m_start, .int m_till, .int m_fault, .int m_faultAt, .int m_seen, .int m_mirrors, .ref y_cost, .ref y_away, .ref y_fee, .ref y_goesTo, .ref y_priceWas, .ref y_isKept, .ref y_kept, .ref y_trace, .int m_traced])), (y_city, .inl (cI, 192, .inl cy))]) ∨ (((-1 : Int) = nbT (cy 0).toInt (cy 1).toInt k.toInt wy.toInt) ∧ r = -1 ∧ w = [(y, .inr (9, [.int m_thrown, .int m_status, .ref y_lane, .ref y_many, .ref y_item, .ref y_city, .ref y_fresh, .int m_isThere, .ref y_tape, .int m_taped, .int m_latest, .int m_length, .int m_cursor, .int m_token, .int m_start, .int m_till, .int m_fault, .int m_faultAt, .int m_seen, .int m_mirrors, .ref y_cost, .ref y_away, .ref y_fee, .ref y_goesTo, .ref y_priceWas, .ref y_isKept, .ref y_kept, .ref y_trace, .int m_traced])), (y_city, .inl (cI, 192, .inl cy))])) := by
  refine b_metI (cc := cX9_nextTo) (maxL := 5) (ret := (some .int)) (by decide) rfl (Nat.le_of_ble_eq_true rfl) ?_
  intro p e s m below meth c ls A H X hsz hP hK hT hD hA hS hl
  have S : CallFix p m c cX9_nextTo 5 s ([.ref y, .int k, .int wy] : List Value).toArray wsX9_nextTo RX9 := X.1
  have hl : lv_has ls 5 [(0, .ref y), (1, .int k), (2, .int wy)] := hl
  refine lv_iload_n S.1 S.2.1 dX9_nextTo_0 rfl (lv_at hl 1 rfl) ?_
  refine lv_bipush (v := (10)) S.1 S.2.1 dX9_nextTo_1 (by decide) ?_
  refine lv_irem S.1 S.2.1 dX9_nextTo_3 (by decide) ?_
  refine lv_topi (fun x_1 ex_1 => ?_)
  have tx_1 : x_1.toInt = k.toInt % 10 := remI (A := k.toInt) (B := 10) ex_1 rfl rfl (by  omega) (by decide)
  refine lv_iload_n S.1 S.2.1 dX9_nextTo_4 rfl (lv_at hl 2 rfl) ?_
  refine b_ai (wr := [(y, .inr (9, [.int m_thrown, .int m_status, .ref y_lane, .ref y_many, .ref y_item, .ref y_city, .ref y_fresh, .int m_isThere, .ref y_tape, .int m_taped, .int m_latest, .int m_length, .int m_cursor, .int m_token, .int m_start, .int m_till, .int m_fault, .int m_faultAt, .int m_seen, .int m_mirrors, .ref y_cost, .ref y_away, .ref y_fee, .ref y_goesTo, .ref y_priceWas, .ref y_isKept, .ref y_kept, .ref y_trace, .int m_traced])), (y_city, .inl (cI, 192, .inl cy))]) (b_runS (As := [.int wy]) (s_X9_east l D cI cZ cC cS sq H.size wy) S gX9_nextTo_X9_east rfl hdS_X9_east ⟨Nat.le_of_ble_eq_true rfl, Nat.le_of_ble_eq_true rfl⟩ ⟨Nat.le_of_ble_eq_true rfl, Nat.le_of_ble_eq_true rfl⟩ hK hT hS hA hP hD [] rfl (by decide) rfl hl.1 rfl (Nat.le_of_ble_eq_true rfl) dX9_nextTo_5) hP hD hS hA [] [0, 1] rfl rfl (by decide) (by decide) (fun r_2 w_3 H locs hw_4 hP hD hS => ?_)
  rcases hw_4 with ⟨hf_5, hf_6, rfl, rfl⟩ | ⟨hf_7, hf_8, rfl, rfl⟩ | ⟨hf_9, hf_10, rfl, rfl⟩
  · have hP : va_P D vwCl [(y, .inr (9, [.int m_thrown, .int m_status, .ref y_lane, .ref y_many, .ref y_item, .ref y_city, .ref y_fresh, .int m_isThere, .ref y_tape, .int m_taped, .int m_latest, .int m_length, .int m_cursor, .int m_token, .int m_start, .int m_till, .int m_fault, .int m_faultAt, .int m_seen, .int m_mirrors, .ref y_cost, .ref y_away, .ref y_fee, .ref y_goesTo, .ref y_priceWas, .ref y_isKept, .ref y_kept, .ref y_trace, .int m_traced])), (y_city, .inl (cI, 192, .inl cy))] H := hP
    have hD : va_D A [(y, .inr (9, [.int m_thrown, .int m_status, .ref y_lane, .ref y_many, .ref y_item, .ref y_city, .ref y_fresh, .int m_isThere, .ref y_tape, .int m_taped, .int m_latest, .int m_length, .int m_cursor, .int m_token, .int m_start, .int m_till, .int m_fault, .int m_faultAt, .int m_seen, .int m_mirrors, .ref y_cost, .ref y_away, .ref y_fee, .ref y_goesTo, .ref y_priceWas, .ref y_isKept, .ref y_kept, .ref y_trace, .int m_traced])), (y_city, .inl (cI, 192, .inl cy))] := hD
    refine lv_iadd S.1 S.2.1 dX9_nextTo_8 ?_
    refine lv_topi (fun x_11 ex_11 => ?_)
    have tx_11 : x_11.toInt = x_1.toInt + (0) := addI (A := x_1.toInt) (B := 0) ex_11 rfl rfl (by  omega) (by  omega)
    refine lv_istore_n (lv' := [(3, .int x_11), (0, .ref y), (1, .int k), (2, .int wy)]) S.1 S.2.1 dX9_nextTo_9 rfl hl (by decide) rfl (fun ls hl => ?_)
    refine lv_iload_n S.1 S.2.1 dX9_nextTo_10 rfl (lv_at hl 2 rfl) ?_
    refine lv_bipush (v := (10)) S.1 S.2.1 dX9_nextTo_11 (by decide) ?_
    refine lv_idiv S.1 S.2.1 dX9_nextTo_13 (by decide) ?_
    refine lv_topi (fun x_12 ex_12 => ?_)
    have tx_12 : x_12.toInt = k.toInt / 10 := divI (A := k.toInt) (B := 10) ex_12 rfl rfl (by  omega) (by decide)
    refine lv_iload_n S.1 S.2.1 dX9_nextTo_14 rfl (lv_at hl 3 rfl) ?_
    refine b_ai (wr := [(y, .inr (9, [.int m_thrown, .int m_status, .ref y_lane, .ref y_many, .ref y_item, .ref y_city, .ref y_fresh, .int m_isThere, .ref y_tape, .int m_taped, .int m_latest, .int m_length, .int m_cursor, .int m_token, .int m_start, .int m_till, .int m_fault, .int m_faultAt, .int m_seen, .int m_mirrors, .ref y_cost, .ref y_away, .ref y_fee, .ref y_goesTo, .ref y_priceWas, .ref y_isKept, .ref y_kept, .ref y_trace, .int m_traced])), (y_city, .inl (cI, 192, .inl cy))]) (b_runS (As := [.int wy]) (s_X9_south l D cI cZ cC cS sq H.size wy) S gX9_nextTo_X9_south rfl hdS_X9_south ⟨Nat.le_of_ble_eq_true rfl, Nat.le_of_ble_eq_true rfl⟩ ⟨Nat.le_of_ble_eq_true rfl, Nat.le_of_ble_eq_true rfl⟩ hK hT hS hA hP hD [] rfl (by decide) rfl hl.1 rfl (Nat.le_of_ble_eq_true rfl) dX9_nextTo_15) hP hD hS hA [] [0, 1] rfl rfl (by decide) (by decide) (fun r_13 w_14 H locs hw_15 hP hD hS => ?_)
    rcases hw_15 with ⟨hf_16, hf_17, rfl, rfl⟩ | ⟨hf_18, hf_19, rfl, rfl⟩ | ⟨hf_20, hf_21, rfl, rfl⟩
    · have hP : va_P D vwCl [(y, .inr (9, [.int m_thrown, .int m_status, .ref y_lane, .ref y_many, .ref y_item, .ref y_city, .ref y_fresh, .int m_isThere, .ref y_tape, .int m_taped, .int m_latest, .int m_length, .int m_cursor, .int m_token, .int m_start, .int m_till, .int m_fault, .int m_faultAt, .int m_seen, .int m_mirrors, .ref y_cost, .ref y_away, .ref y_fee, .ref y_goesTo, .ref y_priceWas, .ref y_isKept, .ref y_kept, .ref y_trace, .int m_traced])), (y_city, .inl (cI, 192, .inl cy))] H := hP
      have hD : va_D A [(y, .inr (9, [.int m_thrown, .int m_status, .ref y_lane, .ref y_many, .ref y_item, .ref y_city, .ref y_fresh, .int m_isThere, .ref y_tape, .int m_taped, .int m_latest, .int m_length, .int m_cursor, .int m_token, .int m_start, .int m_till, .int m_fault, .int m_faultAt, .int m_seen, .int m_mirrors, .ref y_cost, .ref y_away, .ref y_fee, .ref y_goesTo, .ref y_priceWas, .ref y_isKept, .ref y_kept, .ref y_trace, .int m_traced])), (y_city, .inl (cI, 192, .inl cy))] := hD
      refine lv_iadd S.1 S.2.1 dX9_nextTo_18 ?_
      refine lv_topi (fun x_22 ex_22 => ?_)
      have tx_22 : x_22.toInt = x_12.toInt + (0) := addI (A := x_12.toInt) (B := 0) ex_22 rfl rfl (by  omega) (by  omega)
      refine lv_istore (lv' := [(4, .int x_22), (3, .int x_11), (0, .ref y), (1, .int k), (2, .int wy)]) S.1 S.2.1 dX9_nextTo_19 hl (by decide) rfl (fun ls hl => ?_)
      refine lv_aload_n S.1 S.2.1 dX9_nextTo_21 rfl (lv_at hl 2 rfl) ?_
      refine lv_iload_n S.1 S.2.1 dX9_nextTo_22 rfl (lv_at hl 1 rfl) ?_
      refine lv_iload S.1 S.2.1 dX9_nextTo_23 (lv_at hl 0 rfl) ?_
      refine b_ai (wr := []) (b_runV (q0 := 0) (ci := 9) (As := [.int x_11, .int x_22]) (s_X9_isIn l D cI cZ cC cS sq H.size y y_city x_11 x_22 m_thrown m_status y_lane y_many y_item y_fresh m_isThere y_tape m_taped m_latest m_length m_cursor m_token m_start m_till m_fault m_faultAt m_seen m_mirrors y_cost y_away y_fee y_goesTo y_priceWas y_isKept y_kept y_trace m_traced cy (by first | with_reducible assumption | assumption | omega | decide | (rw [show Int32.toInt 0 = 0 from rfl]; omega))) S gX9_nextTo_X9_isIn rfl hdV_X9_isIn ⟨Nat.le_of_ble_eq_true rfl, Nat.le_of_ble_eq_true rfl⟩ ⟨Nat.le_of_ble_eq_true rfl, Nat.le_of_ble_eq_true rfl⟩ hK hT hS hA hP hD rfl rfl [0, 1] rfl (by decide) rfl hl.1 rfl (Nat.le_of_ble_eq_true rfl) dX9_nextTo_25) hP hD hS hA [0, 1] [] rfl rfl (by decide) (by decide) (fun r_23 w_24 H locs hw_25 hP hD hS => ?_)
      rcases hw_25 with ⟨hf_26, rfl, rfl⟩ | ⟨hf_27, rfl, rfl⟩
      · have hP : va_P D vwCl [(y, .inr (9, [.int m_thrown, .int m_status, .ref y_lane, .ref y_many, .ref y_item, .ref y_city, .ref y_fresh, .int m_isThere, .ref y_tape, .int m_taped, .int m_latest, .int m_length, .int m_cursor, .int m_token, .int m_start, .int m_till, .int m_fault, .int m_faultAt, .int m_seen, .int m_mirrors, .ref y_cost, .ref y_away, .ref y_fee, .ref y_goesTo, .ref y_priceWas, .ref y_isKept, .ref y_kept, .ref y_trace, .int m_traced])), (y_city, .inl (cI, 192, .inl cy))] H := hP
        have hD : va_D A [(y, .inr (9, [.int m_thrown, .int m_status, .ref y_lane, .ref y_many, .ref y_item, .ref y_city, .ref y_fresh, .int m_isThere, .ref y_tape, .int m_taped, .int m_latest, .int m_length, .int m_cursor, .int m_token, .int m_start, .int m_till, .int m_fault, .int m_faultAt, .int m_seen, .int m_mirrors, .ref y_cost, .ref y_away, .ref y_fee, .ref y_goesTo, .ref y_priceWas, .ref y_isKept, .ref y_kept, .ref y_trace, .int m_traced])), (y_city, .inl (cI, 192, .inl cy))] := hD
        refine lv_if_eq (tgt := 41) S.1 S.2.1 dX9_nextTo_28 (by decide) (fun c_28 => absurd c_28 (by decide)) (fun c_28 => ?_)
        refine lv_iload_n S.1 S.2.1 dX9_nextTo_31 rfl (lv_at hl 1 rfl) ?_
        refine lv_bipush (v := (10)) S.1 S.2.1 dX9_nextTo_32 (by decide) ?_
        refine lv_iload S.1 S.2.1 dX9_nextTo_34 (lv_at hl 0 rfl) ?_
        refine lv_imul S.1 S.2.1 dX9_nextTo_36 ?_
        refine lv_topi (fun x_29 ex_29 => ?_)
        have tx_29 : x_29.toInt = 10 * x_22.toInt := mulI (A := 10) (B := x_22.toInt) ex_29 rfl rfl (by  omega) (by  omega)
        refine lv_iadd S.1 S.2.1 dX9_nextTo_37 ?_
        refine lv_topi (fun x_30 ex_30 => ?_)
        have tx_30 : x_30.toInt = x_11.toInt + (x_29.toInt) := addI (A := x_11.toInt) (B := x_29.toInt) ex_30 rfl rfl (by  omega) (by  omega)
        refine lv_goto (tgt := 42) S.1 S.2.1 dX9_nextTo_38 (by decide) ?_
        exact b_iret S.1 S.2.1 X.2.1 X.2.2.1 hP hD hS (Or.inl ⟨(by first | with_reducible assumption | (and_intros <;> first | with_reducible assumption | (intros; refine Int.le_antisymm ?_ ?_ <;> omega) | omega) | assumption | decide | (rw [show Int32.toInt 0 = 0 from rfl]; omega)), (by unfold nbT; first | (rw [if_pos (by first | (refine Int.le_antisymm ?_ ?_ <;> omega) | omega)]; omega) | (rw [if_neg (by first | (refine Int.le_antisymm ?_ ?_ <;> omega) | omega)])), rfl⟩) dX9_nextTo_42
      · have hP : va_P D vwCl [(y, .inr (9, [.int m_thrown, .int m_status, .ref y_lane, .ref y_many, .ref y_item, .ref y_city, .ref y_fresh, .int m_isThere, .ref y_tape, .int m_taped, .int m_latest, .int m_length, .int m_cursor, .int m_token, .int m_start, .int m_till, .int m_fault, .int m_faultAt, .int m_seen, .int m_mirrors, .ref y_cost, .ref y_away, .ref y_fee, .ref y_goesTo, .ref y_priceWas, .ref y_isKept, .ref y_kept, .ref y_trace, .int m_traced])), (y_city, .inl (cI, 192, .inl cy))] H := hP
        have hD : va_D A [(y, .inr (9, [.int m_thrown, .int m_status, .ref y_lane, .ref y_many, .ref y_item, .ref y_city, .ref y_fresh, .int m_isThere, .ref y_tape, .int m_taped, .int m_latest, .int m_length, .int m_cursor, .int m_token, .int m_start, .int m_till, .int m_fault, .int m_faultAt, .int m_seen, .int m_mirrors, .ref y_cost, .ref y_away, .ref y_fee, .ref y_goesTo, .ref y_priceWas, .ref y_isKept, .ref y_kept, .ref y_trace, .int m_traced])), (y_city, .inl (cI, 192, .inl cy))] := hD
        refine lv_if_eq (tgt := 41) S.1 S.2.1 dX9_nextTo_28 (by decide) (fun c_31 => ?_) (fun c_31 => absurd c_31 (by decide))
        refine lv_iconst (v := (-1)) S.1 S.2.1 dX9_nextTo_41 (by decide) ?_
        exact b_iret S.1 S.2.1 X.2.1 X.2.2.1 hP hD hS (Or.inr (⟨(by unfold nbT; first | (rw [if_pos (by first | (refine Int.le_antisymm ?_ ?_ <;> omega) | omega)]; omega) | (rw [if_neg (by first | (refine Int.le_antisymm ?_ ?_ <;> omega) | omega)])), rfl, rfl⟩)) dX9_nextTo_42
    · have hP : va_P D vwCl [(y, .inr (9, [.int m_thrown, .int m_status, .ref y_lane, .ref y_many, .ref y_item, .ref y_city, .ref y_fresh, .int m_isThere, .ref y_tape, .int m_taped, .int m_latest, .int m_length, .int m_cursor, .int m_token, .int m_start, .int m_till, .int m_fault, .int m_faultAt, .int m_seen, .int m_mirrors, .ref y_cost, .ref y_away, .ref y_fee, .ref y_goesTo, .ref y_priceWas, .ref y_isKept, .ref y_kept, .ref y_trace, .int m_traced])), (y_city, .inl (cI, 192, .inl cy))] H := hP
      have hD : va_D A [(y, .inr (9, [.int m_thrown, .int m_status, .ref y_lane, .ref y_many, .ref y_item, .ref y_city, .ref y_fresh, .int m_isThere, .ref y_tape, .int m_taped, .int m_latest, .int m_length, .int m_cursor, .int m_token, .int m_start, .int m_till, .int m_fault, .int m_faultAt, .int m_seen, .int m_mirrors, .ref y_cost, .ref y_away, .ref y_fee, .ref y_goesTo, .ref y_priceWas, .ref y_isKept, .ref y_kept, .ref y_trace, .int m_traced])), (y_city, .inl (cI, 192, .inl cy))] := hD
      refine lv_iadd S.1 S.2.1 dX9_nextTo_18 ?_
      refine lv_topi (fun x_32 ex_32 => ?_)
      have tx_32 : x_32.toInt = x_12.toInt + (1) := addI (A := x_12.toInt) (B := 1) ex_32 rfl rfl (by  omega) (by  omega)
      refine lv_istore (lv' := [(4, .int x_32), (3, .int x_11), (0, .ref y), (1, .int k), (2, .int wy)]) S.1 S.2.1 dX9_nextTo_19 hl (by decide) rfl (fun ls hl => ?_)
      refine lv_aload_n S.1 S.2.1 dX9_nextTo_21 rfl (lv_at hl 2 rfl) ?_
      refine lv_iload_n S.1 S.2.1 dX9_nextTo_22 rfl (lv_at hl 1 rfl) ?_
      refine lv_iload S.1 S.2.1 dX9_nextTo_23 (lv_at hl 0 rfl) ?_
      refine b_ai (wr := []) (b_runV (q0 := 0) (ci := 9) (As := [.int x_11, .int x_32]) (s_X9_isIn l D cI cZ cC cS sq H.size y y_city x_11 x_32 m_thrown m_status y_lane y_many y_item y_fresh m_isThere y_tape m_taped m_latest m_length m_cursor m_token m_start m_till m_fault m_faultAt m_seen m_mirrors y_cost y_away y_fee y_goesTo y_priceWas y_isKept y_kept y_trace m_traced cy (by first | with_reducible assumption | assumption | omega | decide | (rw [show Int32.toInt 0 = 0 from rfl]; omega))) S gX9_nextTo_X9_isIn rfl hdV_X9_isIn ⟨Nat.le_of_ble_eq_true rfl, Nat.le_of_ble_eq_true rfl⟩ ⟨Nat.le_of_ble_eq_true rfl, Nat.le_of_ble_eq_true rfl⟩ hK hT hS hA hP hD rfl rfl [0, 1] rfl (by decide) rfl hl.1 rfl (Nat.le_of_ble_eq_true rfl) dX9_nextTo_25) hP hD hS hA [0, 1] [] rfl rfl (by decide) (by decide) (fun r_33 w_34 H locs hw_35 hP hD hS => ?_)
      rcases hw_35 with ⟨hf_36, rfl, rfl⟩ | ⟨hf_37, rfl, rfl⟩
      · have hP : va_P D vwCl [(y, .inr (9, [.int m_thrown, .int m_status, .ref y_lane, .ref y_many, .ref y_item, .ref y_city, .ref y_fresh, .int m_isThere, .ref y_tape, .int m_taped, .int m_latest, .int m_length, .int m_cursor, .int m_token, .int m_start, .int m_till, .int m_fault, .int m_faultAt, .int m_seen, .int m_mirrors, .ref y_cost, .ref y_away, .ref y_fee, .ref y_goesTo, .ref y_priceWas, .ref y_isKept, .ref y_kept, .ref y_trace, .int m_traced])), (y_city, .inl (cI, 192, .inl cy))] H := hP
        have hD : va_D A [(y, .inr (9, [.int m_thrown, .int m_status, .ref y_lane, .ref y_many, .ref y_item, .ref y_city, .ref y_fresh, .int m_isThere, .ref y_tape, .int m_taped, .int m_latest, .int m_length, .int m_cursor, .int m_token, .int m_start, .int m_till, .int m_fault, .int m_faultAt, .int m_seen, .int m_mirrors, .ref y_cost, .ref y_away, .ref y_fee, .ref y_goesTo, .ref y_priceWas, .ref y_isKept, .ref y_kept, .ref y_trace, .int m_traced])), (y_city, .inl (cI, 192, .inl cy))] := hD
        refine lv_if_eq (tgt := 41) S.1 S.2.1 dX9_nextTo_28 (by decide) (fun c_38 => absurd c_38 (by decide)) (fun c_38 => ?_)
        refine lv_iload_n S.1 S.2.1 dX9_nextTo_31 rfl (lv_at hl 1 rfl) ?_
        refine lv_bipush (v := (10)) S.1 S.2.1 dX9_nextTo_32 (by decide) ?_
        refine lv_iload S.1 S.2.1 dX9_nextTo_34 (lv_at hl 0 rfl) ?_
        refine lv_imul S.1 S.2.1 dX9_nextTo_36 ?_
        refine lv_topi (fun x_39 ex_39 => ?_)
        have tx_39 : x_39.toInt = 10 * x_32.toInt := mulI (A := 10) (B := x_32.toInt) ex_39 rfl rfl (by  omega) (by  omega)
        refine lv_iadd S.1 S.2.1 dX9_nextTo_37 ?_
        refine lv_topi (fun x_40 ex_40 => ?_)
        have tx_40 : x_40.toInt = x_11.toInt + (x_39.toInt) := addI (A := x_11.toInt) (B := x_39.toInt) ex_40 rfl rfl (by  omega) (by  omega)
        refine lv_goto (tgt := 42) S.1 S.2.1 dX9_nextTo_38 (by decide) ?_
        exact b_iret S.1 S.2.1 X.2.1 X.2.2.1 hP hD hS (Or.inl ⟨(by first | with_reducible assumption | (and_intros <;> first | with_reducible assumption | (intros; refine Int.le_antisymm ?_ ?_ <;> omega) | omega) | assumption | decide | (rw [show Int32.toInt 0 = 0 from rfl]; omega)), (by unfold nbT; first | (rw [if_pos (by first | (refine Int.le_antisymm ?_ ?_ <;> omega) | omega)]; omega) | (rw [if_neg (by first | (refine Int.le_antisymm ?_ ?_ <;> omega) | omega)])), rfl⟩) dX9_nextTo_42
      · have hP : va_P D vwCl [(y, .inr (9, [.int m_thrown, .int m_status, .ref y_lane, .ref y_many, .ref y_item, .ref y_city, .ref y_fresh, .int m_isThere, .ref y_tape, .int m_taped, .int m_latest, .int m_length, .int m_cursor, .int m_token, .int m_start, .int m_till, .int m_fault, .int m_faultAt, .int m_seen, .int m_mirrors, .ref y_cost, .ref y_away, .ref y_fee, .ref y_goesTo, .ref y_priceWas, .ref y_isKept, .ref y_kept, .ref y_trace, .int m_traced])), (y_city, .inl (cI, 192, .inl cy))] H := hP
        have hD : va_D A [(y, .inr (9, [.int m_thrown, .int m_status, .ref y_lane, .ref y_many, .ref y_item, .ref y_city, .ref y_fresh, .int m_isThere, .ref y_tape, .int m_taped, .int m_latest, .int m_length, .int m_cursor, .int m_token, .int m_start, .int m_till, .int m_fault, .int m_faultAt, .int m_seen, .int m_mirrors, .ref y_cost, .ref y_away, .ref y_fee, .ref y_goesTo, .ref y_priceWas, .ref y_isKept, .ref y_kept, .ref y_trace, .int m_traced])), (y_city, .inl (cI, 192, .inl cy))] := hD
        refine lv_if_eq (tgt := 41) S.1 S.2.1 dX9_nextTo_28 (by decide) (fun c_41 => ?_) (fun c_41 => absurd c_41 (by decide))
        refine lv_iconst (v := (-1)) S.1 S.2.1 dX9_nextTo_41 (by decide) ?_
        exact b_iret S.1 S.2.1 X.2.1 X.2.2.1 hP hD hS (Or.inr (⟨(by unfold nbT; first | (rw [if_pos (by first | (refine Int.le_antisymm ?_ ?_ <;> omega) | omega)]; omega) | (rw [if_neg (by first | (refine Int.le_antisymm ?_ ?_ <;> omega) | omega)])), rfl, rfl⟩)) dX9_nextTo_42
    · have hP : va_P D vwCl [(y, .inr (9, [.int m_thrown, .int m_status, .ref y_lane, .ref y_many, .ref y_item, .ref y_city, .ref y_fresh, .int m_isThere, .ref y_tape, .int m_taped, .int m_latest, .int m_length, .int m_cursor, .int m_token, .int m_start, .int m_till, .int m_fault, .int m_faultAt, .int m_seen, .int m_mirrors, .ref y_cost, .ref y_away, .ref y_fee, .ref y_goesTo, .ref y_priceWas, .ref y_isKept, .ref y_kept, .ref y_trace, .int m_traced])), (y_city, .inl (cI, 192, .inl cy))] H := hP
      have hD : va_D A [(y, .inr (9, [.int m_thrown, .int m_status, .ref y_lane, .ref y_many, .ref y_item, .ref y_city, .ref y_fresh, .int m_isThere, .ref y_tape, .int m_taped, .int m_latest, .int m_length, .int m_cursor, .int m_token, .int m_start, .int m_till, .int m_fault, .int m_faultAt, .int m_seen, .int m_mirrors, .ref y_cost, .ref y_away, .ref y_fee, .ref y_goesTo, .ref y_priceWas, .ref y_isKept, .ref y_kept, .ref y_trace, .int m_traced])), (y_city, .inl (cI, 192, .inl cy))] := hD
      refine lv_iadd S.1 S.2.1 dX9_nextTo_18 ?_
      refine lv_topi (fun x_42 ex_42 => ?_)
      have tx_42 : x_42.toInt = x_12.toInt + (-1) := addI (A := x_12.toInt) (B := -1) ex_42 rfl rfl (by  omega) (by  omega)
      refine lv_istore (lv' := [(4, .int x_42), (3, .int x_11), (0, .ref y), (1, .int k), (2, .int wy)]) S.1 S.2.1 dX9_nextTo_19 hl (by decide) rfl (fun ls hl => ?_)
      refine lv_aload_n S.1 S.2.1 dX9_nextTo_21 rfl (lv_at hl 2 rfl) ?_
      refine lv_iload_n S.1 S.2.1 dX9_nextTo_22 rfl (lv_at hl 1 rfl) ?_
      refine lv_iload S.1 S.2.1 dX9_nextTo_23 (lv_at hl 0 rfl) ?_
      refine b_ai (wr := []) (b_runV (q0 := 0) (ci := 9) (As := [.int x_11, .int x_42]) (s_X9_isIn l D cI cZ cC cS sq H.size y y_city x_11 x_42 m_thrown m_status y_lane y_many y_item y_fresh m_isThere y_tape m_taped m_latest m_length m_cursor m_token m_start m_till m_fault m_faultAt m_seen m_mirrors y_cost y_away y_fee y_goesTo y_priceWas y_isKept y_kept y_trace m_traced cy (by first | with_reducible assumption | assumption | omega | decide | (rw [show Int32.toInt 0 = 0 from rfl]; omega))) S gX9_nextTo_X9_isIn rfl hdV_X9_isIn ⟨Nat.le_of_ble_eq_true rfl, Nat.le_of_ble_eq_true rfl⟩ ⟨Nat.le_of_ble_eq_true rfl, Nat.le_of_ble_eq_true rfl⟩ hK hT hS hA hP hD rfl rfl [0, 1] rfl (by decide) rfl hl.1 rfl (Nat.le_of_ble_eq_true rfl) dX9_nextTo_25) hP hD hS hA [0, 1] [] rfl rfl (by decide) (by decide) (fun r_43 w_44 H locs hw_45 hP hD hS => ?_)
      rcases hw_45 with ⟨hf_46, rfl, rfl⟩ | ⟨hf_47, rfl, rfl⟩
      · have hP : va_P D vwCl [(y, .inr (9, [.int m_thrown, .int m_status, .ref y_lane, .ref y_many, .ref y_item, .ref y_city, .ref y_fresh, .int m_isThere, .ref y_tape, .int m_taped, .int m_latest, .int m_length, .int m_cursor, .int m_token, .int m_start, .int m_till, .int m_fault, .int m_faultAt, .int m_seen, .int m_mirrors, .ref y_cost, .ref y_away, .ref y_fee, .ref y_goesTo, .ref y_priceWas, .ref y_isKept, .ref y_kept, .ref y_trace, .int m_traced])), (y_city, .inl (cI, 192, .inl cy))] H := hP
        have hD : va_D A [(y, .inr (9, [.int m_thrown, .int m_status, .ref y_lane, .ref y_many, .ref y_item, .ref y_city, .ref y_fresh, .int m_isThere, .ref y_tape, .int m_taped, .int m_latest, .int m_length, .int m_cursor, .int m_token, .int m_start, .int m_till, .int m_fault, .int m_faultAt, .int m_seen, .int m_mirrors, .ref y_cost, .ref y_away, .ref y_fee, .ref y_goesTo, .ref y_priceWas, .ref y_isKept, .ref y_kept, .ref y_trace, .int m_traced])), (y_city, .inl (cI, 192, .inl cy))] := hD
        refine lv_if_eq (tgt := 41) S.1 S.2.1 dX9_nextTo_28 (by decide) (fun c_48 => absurd c_48 (by decide)) (fun c_48 => ?_)
        refine lv_iload_n S.1 S.2.1 dX9_nextTo_31 rfl (lv_at hl 1 rfl) ?_
        refine lv_bipush (v := (10)) S.1 S.2.1 dX9_nextTo_32 (by decide) ?_
        refine lv_iload S.1 S.2.1 dX9_nextTo_34 (lv_at hl 0 rfl) ?_
        refine lv_imul S.1 S.2.1 dX9_nextTo_36 ?_
        refine lv_topi (fun x_49 ex_49 => ?_)
        have tx_49 : x_49.toInt = 10 * x_42.toInt := mulI (A := 10) (B := x_42.toInt) ex_49 rfl rfl (by  omega) (by  omega)
        refine lv_iadd S.1 S.2.1 dX9_nextTo_37 ?_
        refine lv_topi (fun x_50 ex_50 => ?_)
        have tx_50 : x_50.toInt = x_11.toInt + (x_49.toInt) := addI (A := x_11.toInt) (B := x_49.toInt) ex_50 rfl rfl (by  omega) (by  omega)
        refine lv_goto (tgt := 42) S.1 S.2.1 dX9_nextTo_38 (by decide) ?_
        exact b_iret S.1 S.2.1 X.2.1 X.2.2.1 hP hD hS (Or.inl ⟨(by first | with_reducible assumption | (and_intros <;> first | with_reducible assumption | (intros; refine Int.le_antisymm ?_ ?_ <;> omega) | omega) | assumption | decide | (rw [show Int32.toInt 0 = 0 from rfl]; omega)), (by unfold nbT; first | (rw [if_pos (by first | (refine Int.le_antisymm ?_ ?_ <;> omega) | omega)]; omega) | (rw [if_neg (by first | (refine Int.le_antisymm ?_ ?_ <;> omega) | omega)])), rfl⟩) dX9_nextTo_42
      · have hP : va_P D vwCl [(y, .inr (9, [.int m_thrown, .int m_status, .ref y_lane, .ref y_many, .ref y_item, .ref y_city, .ref y_fresh, .int m_isThere, .ref y_tape, .int m_taped, .int m_latest, .int m_length, .int m_cursor, .int m_token, .int m_start, .int m_till, .int m_fault, .int m_faultAt, .int m_seen, .int m_mirrors, .ref y_cost, .ref y_away, .ref y_fee, .ref y_goesTo, .ref y_priceWas, .ref y_isKept, .ref y_kept, .ref y_trace, .int m_traced])), (y_city, .inl (cI, 192, .inl cy))] H := hP
        have hD : va_D A [(y, .inr (9, [.int m_thrown, .int m_status, .ref y_lane, .ref y_many, .ref y_item, .ref y_city, .ref y_fresh, .int m_isThere, .ref y_tape, .int m_taped, .int m_latest, .int m_length, .int m_cursor, .int m_token, .int m_start, .int m_till, .int m_fault, .int m_faultAt, .int m_seen, .int m_mirrors, .ref y_cost, .ref y_away, .ref y_fee, .ref y_goesTo, .ref y_priceWas, .ref y_isKept, .ref y_kept, .ref y_trace, .int m_traced])), (y_city, .inl (cI, 192, .inl cy))] := hD
        refine lv_if_eq (tgt := 41) S.1 S.2.1 dX9_nextTo_28 (by decide) (fun c_51 => ?_) (fun c_51 => absurd c_51 (by decide))
        refine lv_iconst (v := (-1)) S.1 S.2.1 dX9_nextTo_41 (by decide) ?_
        exact b_iret S.1 S.2.1 X.2.1 X.2.2.1 hP hD hS (Or.inr (⟨(by unfold nbT; first | (rw [if_pos (by first | (refine Int.le_antisymm ?_ ?_ <;> omega) | omega)]; omega) | (rw [if_neg (by first | (refine Int.le_antisymm ?_ ?_ <;> omega) | omega)])), rfl, rfl⟩)) dX9_nextTo_42
  · have hP : va_P D vwCl [(y, .inr (9, [.int m_thrown, .int m_status, .ref y_lane, .ref y_many, .ref y_item, .ref y_city, .ref y_fresh, .int m_isThere, .ref y_tape, .int m_taped, .int m_latest, .int m_length, .int m_cursor, .int m_token, .int m_start, .int m_till, .int m_fault, .int m_faultAt, .int m_seen, .int m_mirrors, .ref y_cost, .ref y_away, .ref y_fee, .ref y_goesTo, .ref y_priceWas, .ref y_isKept, .ref y_kept, .ref y_trace, .int m_traced])), (y_city, .inl (cI, 192, .inl cy))] H := hP
    have hD : va_D A [(y, .inr (9, [.int m_thrown, .int m_status, .ref y_lane, .ref y_many, .ref y_item, .ref y_city, .ref y_fresh, .int m_isThere, .ref y_tape, .int m_taped, .int m_latest, .int m_length, .int m_cursor, .int m_token, .int m_start, .int m_till, .int m_fault, .int m_faultAt, .int m_seen, .int m_mirrors, .ref y_cost, .ref y_away, .ref y_fee, .ref y_goesTo, .ref y_priceWas, .ref y_isKept, .ref y_kept, .ref y_trace, .int m_traced])), (y_city, .inl (cI, 192, .inl cy))] := hD
    refine lv_iadd S.1 S.2.1 dX9_nextTo_8 ?_
    refine lv_topi (fun x_52 ex_52 => ?_)
    have tx_52 : x_52.toInt = x_1.toInt + (1) := addI (A := x_1.toInt) (B := 1) ex_52 rfl rfl (by  omega) (by  omega)
    refine lv_istore_n (lv' := [(3, .int x_52), (0, .ref y), (1, .int k), (2, .int wy)]) S.1 S.2.1 dX9_nextTo_9 rfl hl (by decide) rfl (fun ls hl => ?_)
    refine lv_iload_n S.1 S.2.1 dX9_nextTo_10 rfl (lv_at hl 2 rfl) ?_
    refine lv_bipush (v := (10)) S.1 S.2.1 dX9_nextTo_11 (by decide) ?_
    refine lv_idiv S.1 S.2.1 dX9_nextTo_13 (by decide) ?_
    refine lv_topi (fun x_53 ex_53 => ?_)
    have tx_53 : x_53.toInt = k.toInt / 10 := divI (A := k.toInt) (B := 10) ex_53 rfl rfl (by  omega) (by decide)
    refine lv_iload_n S.1 S.2.1 dX9_nextTo_14 rfl (lv_at hl 3 rfl) ?_
    refine b_ai (wr := [(y, .inr (9, [.int m_thrown, .int m_status, .ref y_lane, .ref y_many, .ref y_item, .ref y_city, .ref y_fresh, .int m_isThere, .ref y_tape, .int m_taped, .int m_latest, .int m_length, .int m_cursor, .int m_token, .int m_start, .int m_till, .int m_fault, .int m_faultAt, .int m_seen, .int m_mirrors, .ref y_cost, .ref y_away, .ref y_fee, .ref y_goesTo, .ref y_priceWas, .ref y_isKept, .ref y_kept, .ref y_trace, .int m_traced])), (y_city, .inl (cI, 192, .inl cy))]) (b_runS (As := [.int wy]) (s_X9_south l D cI cZ cC cS sq H.size wy) S gX9_nextTo_X9_south rfl hdS_X9_south ⟨Nat.le_of_ble_eq_true rfl, Nat.le_of_ble_eq_true rfl⟩ ⟨Nat.le_of_ble_eq_true rfl, Nat.le_of_ble_eq_true rfl⟩ hK hT hS hA hP hD [] rfl (by decide) rfl hl.1 rfl (Nat.le_of_ble_eq_true rfl) dX9_nextTo_15) hP hD hS hA [] [0, 1] rfl rfl (by decide) (by decide) (fun r_54 w_55 H locs hw_56 hP hD hS => ?_)
    rcases hw_56 with ⟨hf_57, hf_58, rfl, rfl⟩ | ⟨hf_59, hf_60, rfl, rfl⟩ | ⟨hf_61, hf_62, rfl, rfl⟩
    · have hP : va_P D vwCl [(y, .inr (9, [.int m_thrown, .int m_status, .ref y_lane, .ref y_many, .ref y_item, .ref y_city, .ref y_fresh, .int m_isThere, .ref y_tape, .int m_taped, .int m_latest, .int m_length, .int m_cursor, .int m_token, .int m_start, .int m_till, .int m_fault, .int m_faultAt, .int m_seen, .int m_mirrors, .ref y_cost, .ref y_away, .ref y_fee, .ref y_goesTo, .ref y_priceWas, .ref y_isKept, .ref y_kept, .ref y_trace, .int m_traced])), (y_city, .inl (cI, 192, .inl cy))] H := hP
      have hD : va_D A [(y, .inr (9, [.int m_thrown, .int m_status, .ref y_lane, .ref y_many, .ref y_item, .ref y_city, .ref y_fresh, .int m_isThere, .ref y_tape, .int m_taped, .int m_latest, .int m_length, .int m_cursor, .int m_token, .int m_start, .int m_till, .int m_fault, .int m_faultAt, .int m_seen, .int m_mirrors, .ref y_cost, .ref y_away, .ref y_fee, .ref y_goesTo, .ref y_priceWas, .ref y_isKept, .ref y_kept, .ref y_trace, .int m_traced])), (y_city, .inl (cI, 192, .inl cy))] := hD
      refine lv_iadd S.1 S.2.1 dX9_nextTo_18 ?_
      refine lv_topi (fun x_63 ex_63 => ?_)
      have tx_63 : x_63.toInt = x_53.toInt + (0) := addI (A := x_53.toInt) (B := 0) ex_63 rfl rfl (by  omega) (by  omega)
      refine lv_istore (lv' := [(4, .int x_63), (3, .int x_52), (0, .ref y), (1, .int k), (2, .int wy)]) S.1 S.2.1 dX9_nextTo_19 hl (by decide) rfl (fun ls hl => ?_)
      refine lv_aload_n S.1 S.2.1 dX9_nextTo_21 rfl (lv_at hl 2 rfl) ?_
      refine lv_iload_n S.1 S.2.1 dX9_nextTo_22 rfl (lv_at hl 1 rfl) ?_
      refine lv_iload S.1 S.2.1 dX9_nextTo_23 (lv_at hl 0 rfl) ?_
      refine b_ai (wr := []) (b_runV (q0 := 0) (ci := 9) (As := [.int x_52, .int x_63]) (s_X9_isIn l D cI cZ cC cS sq H.size y y_city x_52 x_63 m_thrown m_status y_lane y_many y_item y_fresh m_isThere y_tape m_taped m_latest m_length m_cursor m_token m_start m_till m_fault m_faultAt m_seen m_mirrors y_cost y_away y_fee y_goesTo y_priceWas y_isKept y_kept y_trace m_traced cy (by first | with_reducible assumption | assumption | omega | decide | (rw [show Int32.toInt 0 = 0 from rfl]; omega))) S gX9_nextTo_X9_isIn rfl hdV_X9_isIn ⟨Nat.le_of_ble_eq_true rfl, Nat.le_of_ble_eq_true rfl⟩ ⟨Nat.le_of_ble_eq_true rfl, Nat.le_of_ble_eq_true rfl⟩ hK hT hS hA hP hD rfl rfl [0, 1] rfl (by decide) rfl hl.1 rfl (Nat.le_of_ble_eq_true rfl) dX9_nextTo_25) hP hD hS hA [0, 1] [] rfl rfl (by decide) (by decide) (fun r_64 w_65 H locs hw_66 hP hD hS => ?_)
      rcases hw_66 with ⟨hf_67, rfl, rfl⟩ | ⟨hf_68, rfl, rfl⟩
      · have hP : va_P D vwCl [(y, .inr (9, [.int m_thrown, .int m_status, .ref y_lane, .ref y_many, .ref y_item, .ref y_city, .ref y_fresh, .int m_isThere, .ref y_tape, .int m_taped, .int m_latest, .int m_length, .int m_cursor, .int m_token, .int m_start, .int m_till, .int m_fault, .int m_faultAt, .int m_seen, .int m_mirrors, .ref y_cost, .ref y_away, .ref y_fee, .ref y_goesTo, .ref y_priceWas, .ref y_isKept, .ref y_kept, .ref y_trace, .int m_traced])), (y_city, .inl (cI, 192, .inl cy))] H := hP
        have hD : va_D A [(y, .inr (9, [.int m_thrown, .int m_status, .ref y_lane, .ref y_many, .ref y_item, .ref y_city, .ref y_fresh, .int m_isThere, .ref y_tape, .int m_taped, .int m_latest, .int m_length, .int m_cursor, .int m_token, .int m_start, .int m_till, .int m_fault, .int m_faultAt, .int m_seen, .int m_mirrors, .ref y_cost, .ref y_away, .ref y_fee, .ref y_goesTo, .ref y_priceWas, .ref y_isKept, .ref y_kept, .ref y_trace, .int m_traced])), (y_city, .inl (cI, 192, .inl cy))] := hD
        refine lv_if_eq (tgt := 41) S.1 S.2.1 dX9_nextTo_28 (by decide) (fun c_69 => absurd c_69 (by decide)) (fun c_69 => ?_)
        refine lv_iload_n S.1 S.2.1 dX9_nextTo_31 rfl (lv_at hl 1 rfl) ?_
        refine lv_bipush (v := (10)) S.1 S.2.1 dX9_nextTo_32 (by decide) ?_
        refine lv_iload S.1 S.2.1 dX9_nextTo_34 (lv_at hl 0 rfl) ?_
        refine lv_imul S.1 S.2.1 dX9_nextTo_36 ?_
        refine lv_topi (fun x_70 ex_70 => ?_)
        have tx_70 : x_70.toInt = 10 * x_63.toInt := mulI (A := 10) (B := x_63.toInt) ex_70 rfl rfl (by  omega) (by  omega)
        refine lv_iadd S.1 S.2.1 dX9_nextTo_37 ?_
        refine lv_topi (fun x_71 ex_71 => ?_)
        have tx_71 : x_71.toInt = x_52.toInt + (x_70.toInt) := addI (A := x_52.toInt) (B := x_70.toInt) ex_71 rfl rfl (by  omega) (by  omega)
        refine lv_goto (tgt := 42) S.1 S.2.1 dX9_nextTo_38 (by decide) ?_
        exact b_iret S.1 S.2.1 X.2.1 X.2.2.1 hP hD hS (Or.inl ⟨(by first | with_reducible assumption | (and_intros <;> first | with_reducible assumption | (intros; refine Int.le_antisymm ?_ ?_ <;> omega) | omega) | assumption | decide | (rw [show Int32.toInt 0 = 0 from rfl]; omega)), (by unfold nbT; first | (rw [if_pos (by first | (refine Int.le_antisymm ?_ ?_ <;> omega) | omega)]; omega) | (rw [if_neg (by first | (refine Int.le_antisymm ?_ ?_ <;> omega) | omega)])), rfl⟩) dX9_nextTo_42
      · have hP : va_P D vwCl [(y, .inr (9, [.int m_thrown, .int m_status, .ref y_lane, .ref y_many, .ref y_item, .ref y_city, .ref y_fresh, .int m_isThere, .ref y_tape, .int m_taped, .int m_latest, .int m_length, .int m_cursor, .int m_token, .int m_start, .int m_till, .int m_fault, .int m_faultAt, .int m_seen, .int m_mirrors, .ref y_cost, .ref y_away, .ref y_fee, .ref y_goesTo, .ref y_priceWas, .ref y_isKept, .ref y_kept, .ref y_trace, .int m_traced])), (y_city, .inl (cI, 192, .inl cy))] H := hP
        have hD : va_D A [(y, .inr (9, [.int m_thrown, .int m_status, .ref y_lane, .ref y_many, .ref y_item, .ref y_city, .ref y_fresh, .int m_isThere, .ref y_tape, .int m_taped, .int m_latest, .int m_length, .int m_cursor, .int m_token, .int m_start, .int m_till, .int m_fault, .int m_faultAt, .int m_seen, .int m_mirrors, .ref y_cost, .ref y_away, .ref y_fee, .ref y_goesTo, .ref y_priceWas, .ref y_isKept, .ref y_kept, .ref y_trace, .int m_traced])), (y_city, .inl (cI, 192, .inl cy))] := hD
        refine lv_if_eq (tgt := 41) S.1 S.2.1 dX9_nextTo_28 (by decide) (fun c_72 => ?_) (fun c_72 => absurd c_72 (by decide))
        refine lv_iconst (v := (-1)) S.1 S.2.1 dX9_nextTo_41 (by decide) ?_
        exact b_iret S.1 S.2.1 X.2.1 X.2.2.1 hP hD hS (Or.inr (⟨(by unfold nbT; first | (rw [if_pos (by first | (refine Int.le_antisymm ?_ ?_ <;> omega) | omega)]; omega) | (rw [if_neg (by first | (refine Int.le_antisymm ?_ ?_ <;> omega) | omega)])), rfl, rfl⟩)) dX9_nextTo_42
    · have hP : va_P D vwCl [(y, .inr (9, [.int m_thrown, .int m_status, .ref y_lane, .ref y_many, .ref y_item, .ref y_city, .ref y_fresh, .int m_isThere, .ref y_tape, .int m_taped, .int m_latest, .int m_length, .int m_cursor, .int m_token, .int m_start, .int m_till, .int m_fault, .int m_faultAt, .int m_seen, .int m_mirrors, .ref y_cost, .ref y_away, .ref y_fee, .ref y_goesTo, .ref y_priceWas, .ref y_isKept, .ref y_kept, .ref y_trace, .int m_traced])), (y_city, .inl (cI, 192, .inl cy))] H := hP
      have hD : va_D A [(y, .inr (9, [.int m_thrown, .int m_status, .ref y_lane, .ref y_many, .ref y_item, .ref y_city, .ref y_fresh, .int m_isThere, .ref y_tape, .int m_taped, .int m_latest, .int m_length, .int m_cursor, .int m_token, .int m_start, .int m_till, .int m_fault, .int m_faultAt, .int m_seen, .int m_mirrors, .ref y_cost, .ref y_away, .ref y_fee, .ref y_goesTo, .ref y_priceWas, .ref y_isKept, .ref y_kept, .ref y_trace, .int m_traced])), (y_city, .inl (cI, 192, .inl cy))] := hD
      refine lv_iadd S.1 S.2.1 dX9_nextTo_18 ?_
      refine lv_topi (fun x_73 ex_73 => ?_)
      have tx_73 : x_73.toInt = x_53.toInt + (1) := addI (A := x_53.toInt) (B := 1) ex_73 rfl rfl (by  omega) (by  omega)
      refine lv_istore (lv' := [(4, .int x_73), (3, .int x_52), (0, .ref y), (1, .int k), (2, .int wy)]) S.1 S.2.1 dX9_nextTo_19 hl (by decide) rfl (fun ls hl => ?_)
      refine lv_aload_n S.1 S.2.1 dX9_nextTo_21 rfl (lv_at hl 2 rfl) ?_
      refine lv_iload_n S.1 S.2.1 dX9_nextTo_22 rfl (lv_at hl 1 rfl) ?_
      refine lv_iload S.1 S.2.1 dX9_nextTo_23 (lv_at hl 0 rfl) ?_
      refine b_ai (wr := []) (b_runV (q0 := 0) (ci := 9) (As := [.int x_52, .int x_73]) (s_X9_isIn l D cI cZ cC cS sq H.size y y_city x_52 x_73 m_thrown m_status y_lane y_many y_item y_fresh m_isThere y_tape m_taped m_latest m_length m_cursor m_token m_start m_till m_fault m_faultAt m_seen m_mirrors y_cost y_away y_fee y_goesTo y_priceWas y_isKept y_kept y_trace m_traced cy (by first | with_reducible assumption | assumption | omega | decide | (rw [show Int32.toInt 0 = 0 from rfl]; omega))) S gX9_nextTo_X9_isIn rfl hdV_X9_isIn ⟨Nat.le_of_ble_eq_true rfl, Nat.le_of_ble_eq_true rfl⟩ ⟨Nat.le_of_ble_eq_true rfl, Nat.le_of_ble_eq_true rfl⟩ hK hT hS hA hP hD rfl rfl [0, 1] rfl (by decide) rfl hl.1 rfl (Nat.le_of_ble_eq_true rfl) dX9_nextTo_25) hP hD hS hA [0, 1] [] rfl rfl (by decide) (by decide) (fun r_74 w_75 H locs hw_76 hP hD hS => ?_)
      rcases hw_76 with ⟨hf_77, rfl, rfl⟩ | ⟨hf_78, rfl, rfl⟩
      · have hP : va_P D vwCl [(y, .inr (9, [.int m_thrown, .int m_status, .ref y_lane, .ref y_many, .ref y_item, .ref y_city, .ref y_fresh, .int m_isThere, .ref y_tape, .int m_taped, .int m_latest, .int m_length, .int m_cursor, .int m_token, .int m_start, .int m_till, .int m_fault, .int m_faultAt, .int m_seen, .int m_mirrors, .ref y_cost, .ref y_away, .ref y_fee, .ref y_goesTo, .ref y_priceWas, .ref y_isKept, .ref y_kept, .ref y_trace, .int m_traced])), (y_city, .inl (cI, 192, .inl cy))] H := hP
        have hD : va_D A [(y, .inr (9, [.int m_thrown, .int m_status, .ref y_lane, .ref y_many, .ref y_item, .ref y_city, .ref y_fresh, .int m_isThere, .ref y_tape, .int m_taped, .int m_latest, .int m_length, .int m_cursor, .int m_token, .int m_start, .int m_till, .int m_fault, .int m_faultAt, .int m_seen, .int m_mirrors, .ref y_cost, .ref y_away, .ref y_fee, .ref y_goesTo, .ref y_priceWas, .ref y_isKept, .ref y_kept, .ref y_trace, .int m_traced])), (y_city, .inl (cI, 192, .inl cy))] := hD
        refine lv_if_eq (tgt := 41) S.1 S.2.1 dX9_nextTo_28 (by decide) (fun c_79 => absurd c_79 (by decide)) (fun c_79 => ?_)
        refine lv_iload_n S.1 S.2.1 dX9_nextTo_31 rfl (lv_at hl 1 rfl) ?_
        refine lv_bipush (v := (10)) S.1 S.2.1 dX9_nextTo_32 (by decide) ?_
        refine lv_iload S.1 S.2.1 dX9_nextTo_34 (lv_at hl 0 rfl) ?_
        refine lv_imul S.1 S.2.1 dX9_nextTo_36 ?_
        refine lv_topi (fun x_80 ex_80 => ?_)
        have tx_80 : x_80.toInt = 10 * x_73.toInt := mulI (A := 10) (B := x_73.toInt) ex_80 rfl rfl (by  omega) (by  omega)
        refine lv_iadd S.1 S.2.1 dX9_nextTo_37 ?_
        refine lv_topi (fun x_81 ex_81 => ?_)
        have tx_81 : x_81.toInt = x_52.toInt + (x_80.toInt) := addI (A := x_52.toInt) (B := x_80.toInt) ex_81 rfl rfl (by  omega) (by  omega)
        refine lv_goto (tgt := 42) S.1 S.2.1 dX9_nextTo_38 (by decide) ?_
        exact b_iret S.1 S.2.1 X.2.1 X.2.2.1 hP hD hS (Or.inl ⟨(by first | with_reducible assumption | (and_intros <;> first | with_reducible assumption | (intros; refine Int.le_antisymm ?_ ?_ <;> omega) | omega) | assumption | decide | (rw [show Int32.toInt 0 = 0 from rfl]; omega)), (by unfold nbT; first | (rw [if_pos (by first | (refine Int.le_antisymm ?_ ?_ <;> omega) | omega)]; omega) | (rw [if_neg (by first | (refine Int.le_antisymm ?_ ?_ <;> omega) | omega)])), rfl⟩) dX9_nextTo_42
      · have hP : va_P D vwCl [(y, .inr (9, [.int m_thrown, .int m_status, .ref y_lane, .ref y_many, .ref y_item, .ref y_city, .ref y_fresh, .int m_isThere, .ref y_tape, .int m_taped, .int m_latest, .int m_length, .int m_cursor, .int m_token, .int m_start, .int m_till, .int m_fault, .int m_faultAt, .int m_seen, .int m_mirrors, .ref y_cost, .ref y_away, .ref y_fee, .ref y_goesTo, .ref y_priceWas, .ref y_isKept, .ref y_kept, .ref y_trace, .int m_traced])), (y_city, .inl (cI, 192, .inl cy))] H := hP
        have hD : va_D A [(y, .inr (9, [.int m_thrown, .int m_status, .ref y_lane, .ref y_many, .ref y_item, .ref y_city, .ref y_fresh, .int m_isThere, .ref y_tape, .int m_taped, .int m_latest, .int m_length, .int m_cursor, .int m_token, .int m_start, .int m_till, .int m_fault, .int m_faultAt, .int m_seen, .int m_mirrors, .ref y_cost, .ref y_away, .ref y_fee, .ref y_goesTo, .ref y_priceWas, .ref y_isKept, .ref y_kept, .ref y_trace, .int m_traced])), (y_city, .inl (cI, 192, .inl cy))] := hD
        refine lv_if_eq (tgt := 41) S.1 S.2.1 dX9_nextTo_28 (by decide) (fun c_82 => ?_) (fun c_82 => absurd c_82 (by decide))
        refine lv_iconst (v := (-1)) S.1 S.2.1 dX9_nextTo_41 (by decide) ?_
        exact b_iret S.1 S.2.1 X.2.1 X.2.2.1 hP hD hS (Or.inr (⟨(by unfold nbT; first | (rw [if_pos (by first | (refine Int.le_antisymm ?_ ?_ <;> omega) | omega)]; omega) | (rw [if_neg (by first | (refine Int.le_antisymm ?_ ?_ <;> omega) | omega)])), rfl, rfl⟩)) dX9_nextTo_42
    · have hP : va_P D vwCl [(y, .inr (9, [.int m_thrown, .int m_status, .ref y_lane, .ref y_many, .ref y_item, .ref y_city, .ref y_fresh, .int m_isThere, .ref y_tape, .int m_taped, .int m_latest, .int m_length, .int m_cursor, .int m_token, .int m_start, .int m_till, .int m_fault, .int m_faultAt, .int m_seen, .int m_mirrors, .ref y_cost, .ref y_away, .ref y_fee, .ref y_goesTo, .ref y_priceWas, .ref y_isKept, .ref y_kept, .ref y_trace, .int m_traced])), (y_city, .inl (cI, 192, .inl cy))] H := hP
      have hD : va_D A [(y, .inr (9, [.int m_thrown, .int m_status, .ref y_lane, .ref y_many, .ref y_item, .ref y_city, .ref y_fresh, .int m_isThere, .ref y_tape, .int m_taped, .int m_latest, .int m_length, .int m_cursor, .int m_token, .int m_start, .int m_till, .int m_fault, .int m_faultAt, .int m_seen, .int m_mirrors, .ref y_cost, .ref y_away, .ref y_fee, .ref y_goesTo, .ref y_priceWas, .ref y_isKept, .ref y_kept, .ref y_trace, .int m_traced])), (y_city, .inl (cI, 192, .inl cy))] := hD
      refine lv_iadd S.1 S.2.1 dX9_nextTo_18 ?_
      refine lv_topi (fun x_83 ex_83 => ?_)
      have tx_83 : x_83.toInt = x_53.toInt + (-1) := addI (A := x_53.toInt) (B := -1) ex_83 rfl rfl (by  omega) (by  omega)
      refine lv_istore (lv' := [(4, .int x_83), (3, .int x_52), (0, .ref y), (1, .int k), (2, .int wy)]) S.1 S.2.1 dX9_nextTo_19 hl (by decide) rfl (fun ls hl => ?_)
      refine lv_aload_n S.1 S.2.1 dX9_nextTo_21 rfl (lv_at hl 2 rfl) ?_
      refine lv_iload_n S.1 S.2.1 dX9_nextTo_22 rfl (lv_at hl 1 rfl) ?_
      refine lv_iload S.1 S.2.1 dX9_nextTo_23 (lv_at hl 0 rfl) ?_
      refine b_ai (wr := []) (b_runV (q0 := 0) (ci := 9) (As := [.int x_52, .int x_83]) (s_X9_isIn l D cI cZ cC cS sq H.size y y_city x_52 x_83 m_thrown m_status y_lane y_many y_item y_fresh m_isThere y_tape m_taped m_latest m_length m_cursor m_token m_start m_till m_fault m_faultAt m_seen m_mirrors y_cost y_away y_fee y_goesTo y_priceWas y_isKept y_kept y_trace m_traced cy (by first | with_reducible assumption | assumption | omega | decide | (rw [show Int32.toInt 0 = 0 from rfl]; omega))) S gX9_nextTo_X9_isIn rfl hdV_X9_isIn ⟨Nat.le_of_ble_eq_true rfl, Nat.le_of_ble_eq_true rfl⟩ ⟨Nat.le_of_ble_eq_true rfl, Nat.le_of_ble_eq_true rfl⟩ hK hT hS hA hP hD rfl rfl [0, 1] rfl (by decide) rfl hl.1 rfl (Nat.le_of_ble_eq_true rfl) dX9_nextTo_25) hP hD hS hA [0, 1] [] rfl rfl (by decide) (by decide) (fun r_84 w_85 H locs hw_86 hP hD hS => ?_)
      rcases hw_86 with ⟨hf_87, rfl, rfl⟩ | ⟨hf_88, rfl, rfl⟩
      · have hP : va_P D vwCl [(y, .inr (9, [.int m_thrown, .int m_status, .ref y_lane, .ref y_many, .ref y_item, .ref y_city, .ref y_fresh, .int m_isThere, .ref y_tape, .int m_taped, .int m_latest, .int m_length, .int m_cursor, .int m_token, .int m_start, .int m_till, .int m_fault, .int m_faultAt, .int m_seen, .int m_mirrors, .ref y_cost, .ref y_away, .ref y_fee, .ref y_goesTo, .ref y_priceWas, .ref y_isKept, .ref y_kept, .ref y_trace, .int m_traced])), (y_city, .inl (cI, 192, .inl cy))] H := hP
        have hD : va_D A [(y, .inr (9, [.int m_thrown, .int m_status, .ref y_lane, .ref y_many, .ref y_item, .ref y_city, .ref y_fresh, .int m_isThere, .ref y_tape, .int m_taped, .int m_latest, .int m_length, .int m_cursor, .int m_token, .int m_start, .int m_till, .int m_fault, .int m_faultAt, .int m_seen, .int m_mirrors, .ref y_cost, .ref y_away, .ref y_fee, .ref y_goesTo, .ref y_priceWas, .ref y_isKept, .ref y_kept, .ref y_trace, .int m_traced])), (y_city, .inl (cI, 192, .inl cy))] := hD
        refine lv_if_eq (tgt := 41) S.1 S.2.1 dX9_nextTo_28 (by decide) (fun c_89 => absurd c_89 (by decide)) (fun c_89 => ?_)
        refine lv_iload_n S.1 S.2.1 dX9_nextTo_31 rfl (lv_at hl 1 rfl) ?_
        refine lv_bipush (v := (10)) S.1 S.2.1 dX9_nextTo_32 (by decide) ?_
        refine lv_iload S.1 S.2.1 dX9_nextTo_34 (lv_at hl 0 rfl) ?_
        refine lv_imul S.1 S.2.1 dX9_nextTo_36 ?_
        refine lv_topi (fun x_90 ex_90 => ?_)
        have tx_90 : x_90.toInt = 10 * x_83.toInt := mulI (A := 10) (B := x_83.toInt) ex_90 rfl rfl (by  omega) (by  omega)
        refine lv_iadd S.1 S.2.1 dX9_nextTo_37 ?_
        refine lv_topi (fun x_91 ex_91 => ?_)
        have tx_91 : x_91.toInt = x_52.toInt + (x_90.toInt) := addI (A := x_52.toInt) (B := x_90.toInt) ex_91 rfl rfl (by  omega) (by  omega)
        refine lv_goto (tgt := 42) S.1 S.2.1 dX9_nextTo_38 (by decide) ?_
        exact b_iret S.1 S.2.1 X.2.1 X.2.2.1 hP hD hS (Or.inl ⟨(by first | with_reducible assumption | (and_intros <;> first | with_reducible assumption | (intros; refine Int.le_antisymm ?_ ?_ <;> omega) | omega) | assumption | decide | (rw [show Int32.toInt 0 = 0 from rfl]; omega)), (by unfold nbT; first | (rw [if_pos (by first | (refine Int.le_antisymm ?_ ?_ <;> omega) | omega)]; omega) | (rw [if_neg (by first | (refine Int.le_antisymm ?_ ?_ <;> omega) | omega)])), rfl⟩) dX9_nextTo_42
      · have hP : va_P D vwCl [(y, .inr (9, [.int m_thrown, .int m_status, .ref y_lane, .ref y_many, .ref y_item, .ref y_city, .ref y_fresh, .int m_isThere, .ref y_tape, .int m_taped, .int m_latest, .int m_length, .int m_cursor, .int m_token, .int m_start, .int m_till, .int m_fault, .int m_faultAt, .int m_seen, .int m_mirrors, .ref y_cost, .ref y_away, .ref y_fee, .ref y_goesTo, .ref y_priceWas, .ref y_isKept, .ref y_kept, .ref y_trace, .int m_traced])), (y_city, .inl (cI, 192, .inl cy))] H := hP
        have hD : va_D A [(y, .inr (9, [.int m_thrown, .int m_status, .ref y_lane, .ref y_many, .ref y_item, .ref y_city, .ref y_fresh, .int m_isThere, .ref y_tape, .int m_taped, .int m_latest, .int m_length, .int m_cursor, .int m_token, .int m_start, .int m_till, .int m_fault, .int m_faultAt, .int m_seen, .int m_mirrors, .ref y_cost, .ref y_away, .ref y_fee, .ref y_goesTo, .ref y_priceWas, .ref y_isKept, .ref y_kept, .ref y_trace, .int m_traced])), (y_city, .inl (cI, 192, .inl cy))] := hD
        refine lv_if_eq (tgt := 41) S.1 S.2.1 dX9_nextTo_28 (by decide) (fun c_92 => ?_) (fun c_92 => absurd c_92 (by decide))
        refine lv_iconst (v := (-1)) S.1 S.2.1 dX9_nextTo_41 (by decide) ?_
        exact b_iret S.1 S.2.1 X.2.1 X.2.2.1 hP hD hS (Or.inr (⟨(by unfold nbT; first | (rw [if_pos (by first | (refine Int.le_antisymm ?_ ?_ <;> omega) | omega)]; omega) | (rw [if_neg (by first | (refine Int.le_antisymm ?_ ?_ <;> omega) | omega)])), rfl, rfl⟩)) dX9_nextTo_42
  · have hP : va_P D vwCl [(y, .inr (9, [.int m_thrown, .int m_status, .ref y_lane, .ref y_many, .ref y_item, .ref y_city, .ref y_fresh, .int m_isThere, .ref y_tape, .int m_taped, .int m_latest, .int m_length, .int m_cursor, .int m_token, .int m_start, .int m_till, .int m_fault, .int m_faultAt, .int m_seen, .int m_mirrors, .ref y_cost, .ref y_away, .ref y_fee, .ref y_goesTo, .ref y_priceWas, .ref y_isKept, .ref y_kept, .ref y_trace, .int m_traced])), (y_city, .inl (cI, 192, .inl cy))] H := hP
    have hD : va_D A [(y, .inr (9, [.int m_thrown, .int m_status, .ref y_lane, .ref y_many, .ref y_item, .ref y_city, .ref y_fresh, .int m_isThere, .ref y_tape, .int m_taped, .int m_latest, .int m_length, .int m_cursor, .int m_token, .int m_start, .int m_till, .int m_fault, .int m_faultAt, .int m_seen, .int m_mirrors, .ref y_cost, .ref y_away, .ref y_fee, .ref y_goesTo, .ref y_priceWas, .ref y_isKept, .ref y_kept, .ref y_trace, .int m_traced])), (y_city, .inl (cI, 192, .inl cy))] := hD
    refine lv_iadd S.1 S.2.1 dX9_nextTo_8 ?_
    refine lv_topi (fun x_93 ex_93 => ?_)
    have tx_93 : x_93.toInt = x_1.toInt + (-1) := addI (A := x_1.toInt) (B := -1) ex_93 rfl rfl (by  omega) (by  omega)
    refine lv_istore_n (lv' := [(3, .int x_93), (0, .ref y), (1, .int k), (2, .int wy)]) S.1 S.2.1 dX9_nextTo_9 rfl hl (by decide) rfl (fun ls hl => ?_)
    refine lv_iload_n S.1 S.2.1 dX9_nextTo_10 rfl (lv_at hl 2 rfl) ?_
    refine lv_bipush (v := (10)) S.1 S.2.1 dX9_nextTo_11 (by decide) ?_
    refine lv_idiv S.1 S.2.1 dX9_nextTo_13 (by decide) ?_
    refine lv_topi (fun x_94 ex_94 => ?_)
    have tx_94 : x_94.toInt = k.toInt / 10 := divI (A := k.toInt) (B := 10) ex_94 rfl rfl (by  omega) (by decide)
    refine lv_iload_n S.1 S.2.1 dX9_nextTo_14 rfl (lv_at hl 3 rfl) ?_
    refine b_ai (wr := [(y, .inr (9, [.int m_thrown, .int m_status, .ref y_lane, .ref y_many, .ref y_item, .ref y_city, .ref y_fresh, .int m_isThere, .ref y_tape, .int m_taped, .int m_latest, .int m_length, .int m_cursor, .int m_token, .int m_start, .int m_till, .int m_fault, .int m_faultAt, .int m_seen, .int m_mirrors, .ref y_cost, .ref y_away, .ref y_fee, .ref y_goesTo, .ref y_priceWas, .ref y_isKept, .ref y_kept, .ref y_trace, .int m_traced])), (y_city, .inl (cI, 192, .inl cy))]) (b_runS (As := [.int wy]) (s_X9_south l D cI cZ cC cS sq H.size wy) S gX9_nextTo_X9_south rfl hdS_X9_south ⟨Nat.le_of_ble_eq_true rfl, Nat.le_of_ble_eq_true rfl⟩ ⟨Nat.le_of_ble_eq_true rfl, Nat.le_of_ble_eq_true rfl⟩ hK hT hS hA hP hD [] rfl (by decide) rfl hl.1 rfl (Nat.le_of_ble_eq_true rfl) dX9_nextTo_15) hP hD hS hA [] [0, 1] rfl rfl (by decide) (by decide) (fun r_95 w_96 H locs hw_97 hP hD hS => ?_)
    rcases hw_97 with ⟨hf_98, hf_99, rfl, rfl⟩ | ⟨hf_100, hf_101, rfl, rfl⟩ | ⟨hf_102, hf_103, rfl, rfl⟩
    · have hP : va_P D vwCl [(y, .inr (9, [.int m_thrown, .int m_status, .ref y_lane, .ref y_many, .ref y_item, .ref y_city, .ref y_fresh, .int m_isThere, .ref y_tape, .int m_taped, .int m_latest, .int m_length, .int m_cursor, .int m_token, .int m_start, .int m_till, .int m_fault, .int m_faultAt, .int m_seen, .int m_mirrors, .ref y_cost, .ref y_away, .ref y_fee, .ref y_goesTo, .ref y_priceWas, .ref y_isKept, .ref y_kept, .ref y_trace, .int m_traced])), (y_city, .inl (cI, 192, .inl cy))] H := hP
      have hD : va_D A [(y, .inr (9, [.int m_thrown, .int m_status, .ref y_lane, .ref y_many, .ref y_item, .ref y_city, .ref y_fresh, .int m_isThere, .ref y_tape, .int m_taped, .int m_latest, .int m_length, .int m_cursor, .int m_token, .int m_start, .int m_till, .int m_fault, .int m_faultAt, .int m_seen, .int m_mirrors, .ref y_cost, .ref y_away, .ref y_fee, .ref y_goesTo, .ref y_priceWas, .ref y_isKept, .ref y_kept, .ref y_trace, .int m_traced])), (y_city, .inl (cI, 192, .inl cy))] := hD
      refine lv_iadd S.1 S.2.1 dX9_nextTo_18 ?_
      refine lv_topi (fun x_104 ex_104 => ?_)
      have tx_104 : x_104.toInt = x_94.toInt + (0) := addI (A := x_94.toInt) (B := 0) ex_104 rfl rfl (by  omega) (by  omega)
      refine lv_istore (lv' := [(4, .int x_104), (3, .int x_93), (0, .ref y), (1, .int k), (2, .int wy)]) S.1 S.2.1 dX9_nextTo_19 hl (by decide) rfl (fun ls hl => ?_)
      refine lv_aload_n S.1 S.2.1 dX9_nextTo_21 rfl (lv_at hl 2 rfl) ?_
      refine lv_iload_n S.1 S.2.1 dX9_nextTo_22 rfl (lv_at hl 1 rfl) ?_
      refine lv_iload S.1 S.2.1 dX9_nextTo_23 (lv_at hl 0 rfl) ?_
      refine b_ai (wr := []) (b_runV (q0 := 0) (ci := 9) (As := [.int x_93, .int x_104]) (s_X9_isIn l D cI cZ cC cS sq H.size y y_city x_93 x_104 m_thrown m_status y_lane y_many y_item y_fresh m_isThere y_tape m_taped m_latest m_length m_cursor m_token m_start m_till m_fault m_faultAt m_seen m_mirrors y_cost y_away y_fee y_goesTo y_priceWas y_isKept y_kept y_trace m_traced cy (by first | with_reducible assumption | assumption | omega | decide | (rw [show Int32.toInt 0 = 0 from rfl]; omega))) S gX9_nextTo_X9_isIn rfl hdV_X9_isIn ⟨Nat.le_of_ble_eq_true rfl, Nat.le_of_ble_eq_true rfl⟩ ⟨Nat.le_of_ble_eq_true rfl, Nat.le_of_ble_eq_true rfl⟩ hK hT hS hA hP hD rfl rfl [0, 1] rfl (by decide) rfl hl.1 rfl (Nat.le_of_ble_eq_true rfl) dX9_nextTo_25) hP hD hS hA [0, 1] [] rfl rfl (by decide) (by decide) (fun r_105 w_106 H locs hw_107 hP hD hS => ?_)
      rcases hw_107 with ⟨hf_108, rfl, rfl⟩ | ⟨hf_109, rfl, rfl⟩
      · have hP : va_P D vwCl [(y, .inr (9, [.int m_thrown, .int m_status, .ref y_lane, .ref y_many, .ref y_item, .ref y_city, .ref y_fresh, .int m_isThere, .ref y_tape, .int m_taped, .int m_latest, .int m_length, .int m_cursor, .int m_token, .int m_start, .int m_till, .int m_fault, .int m_faultAt, .int m_seen, .int m_mirrors, .ref y_cost, .ref y_away, .ref y_fee, .ref y_goesTo, .ref y_priceWas, .ref y_isKept, .ref y_kept, .ref y_trace, .int m_traced])), (y_city, .inl (cI, 192, .inl cy))] H := hP
        have hD : va_D A [(y, .inr (9, [.int m_thrown, .int m_status, .ref y_lane, .ref y_many, .ref y_item, .ref y_city, .ref y_fresh, .int m_isThere, .ref y_tape, .int m_taped, .int m_latest, .int m_length, .int m_cursor, .int m_token, .int m_start, .int m_till, .int m_fault, .int m_faultAt, .int m_seen, .int m_mirrors, .ref y_cost, .ref y_away, .ref y_fee, .ref y_goesTo, .ref y_priceWas, .ref y_isKept, .ref y_kept, .ref y_trace, .int m_traced])), (y_city, .inl (cI, 192, .inl cy))] := hD
        refine lv_if_eq (tgt := 41) S.1 S.2.1 dX9_nextTo_28 (by decide) (fun c_110 => absurd c_110 (by decide)) (fun c_110 => ?_)
        refine lv_iload_n S.1 S.2.1 dX9_nextTo_31 rfl (lv_at hl 1 rfl) ?_
        refine lv_bipush (v := (10)) S.1 S.2.1 dX9_nextTo_32 (by decide) ?_
        refine lv_iload S.1 S.2.1 dX9_nextTo_34 (lv_at hl 0 rfl) ?_
        refine lv_imul S.1 S.2.1 dX9_nextTo_36 ?_
        refine lv_topi (fun x_111 ex_111 => ?_)
        have tx_111 : x_111.toInt = 10 * x_104.toInt := mulI (A := 10) (B := x_104.toInt) ex_111 rfl rfl (by  omega) (by  omega)
        refine lv_iadd S.1 S.2.1 dX9_nextTo_37 ?_
        refine lv_topi (fun x_112 ex_112 => ?_)
        have tx_112 : x_112.toInt = x_93.toInt + (x_111.toInt) := addI (A := x_93.toInt) (B := x_111.toInt) ex_112 rfl rfl (by  omega) (by  omega)
        refine lv_goto (tgt := 42) S.1 S.2.1 dX9_nextTo_38 (by decide) ?_
        exact b_iret S.1 S.2.1 X.2.1 X.2.2.1 hP hD hS (Or.inl ⟨(by first | with_reducible assumption | (and_intros <;> first | with_reducible assumption | (intros; refine Int.le_antisymm ?_ ?_ <;> omega) | omega) | assumption | decide | (rw [show Int32.toInt 0 = 0 from rfl]; omega)), (by unfold nbT; first | (rw [if_pos (by first | (refine Int.le_antisymm ?_ ?_ <;> omega) | omega)]; omega) | (rw [if_neg (by first | (refine Int.le_antisymm ?_ ?_ <;> omega) | omega)])), rfl⟩) dX9_nextTo_42
      · have hP : va_P D vwCl [(y, .inr (9, [.int m_thrown, .int m_status, .ref y_lane, .ref y_many, .ref y_item, .ref y_city, .ref y_fresh, .int m_isThere, .ref y_tape, .int m_taped, .int m_latest, .int m_length, .int m_cursor, .int m_token, .int m_start, .int m_till, .int m_fault, .int m_faultAt, .int m_seen, .int m_mirrors, .ref y_cost, .ref y_away, .ref y_fee, .ref y_goesTo, .ref y_priceWas, .ref y_isKept, .ref y_kept, .ref y_trace, .int m_traced])), (y_city, .inl (cI, 192, .inl cy))] H := hP
        have hD : va_D A [(y, .inr (9, [.int m_thrown, .int m_status, .ref y_lane, .ref y_many, .ref y_item, .ref y_city, .ref y_fresh, .int m_isThere, .ref y_tape, .int m_taped, .int m_latest, .int m_length, .int m_cursor, .int m_token, .int m_start, .int m_till, .int m_fault, .int m_faultAt, .int m_seen, .int m_mirrors, .ref y_cost, .ref y_away, .ref y_fee, .ref y_goesTo, .ref y_priceWas, .ref y_isKept, .ref y_kept, .ref y_trace, .int m_traced])), (y_city, .inl (cI, 192, .inl cy))] := hD
        refine lv_if_eq (tgt := 41) S.1 S.2.1 dX9_nextTo_28 (by decide) (fun c_113 => ?_) (fun c_113 => absurd c_113 (by decide))
        refine lv_iconst (v := (-1)) S.1 S.2.1 dX9_nextTo_41 (by decide) ?_
        exact b_iret S.1 S.2.1 X.2.1 X.2.2.1 hP hD hS (Or.inr (⟨(by unfold nbT; first | (rw [if_pos (by first | (refine Int.le_antisymm ?_ ?_ <;> omega) | omega)]; omega) | (rw [if_neg (by first | (refine Int.le_antisymm ?_ ?_ <;> omega) | omega)])), rfl, rfl⟩)) dX9_nextTo_42
    · have hP : va_P D vwCl [(y, .inr (9, [.int m_thrown, .int m_status, .ref y_lane, .ref y_many, .ref y_item, .ref y_city, .ref y_fresh, .int m_isThere, .ref y_tape, .int m_taped, .int m_latest, .int m_length, .int m_cursor, .int m_token, .int m_start, .int m_till, .int m_fault, .int m_faultAt, .int m_seen, .int m_mirrors, .ref y_cost, .ref y_away, .ref y_fee, .ref y_goesTo, .ref y_priceWas, .ref y_isKept, .ref y_kept, .ref y_trace, .int m_traced])), (y_city, .inl (cI, 192, .inl cy))] H := hP
      have hD : va_D A [(y, .inr (9, [.int m_thrown, .int m_status, .ref y_lane, .ref y_many, .ref y_item, .ref y_city, .ref y_fresh, .int m_isThere, .ref y_tape, .int m_taped, .int m_latest, .int m_length, .int m_cursor, .int m_token, .int m_start, .int m_till, .int m_fault, .int m_faultAt, .int m_seen, .int m_mirrors, .ref y_cost, .ref y_away, .ref y_fee, .ref y_goesTo, .ref y_priceWas, .ref y_isKept, .ref y_kept, .ref y_trace, .int m_traced])), (y_city, .inl (cI, 192, .inl cy))] := hD
      refine lv_iadd S.1 S.2.1 dX9_nextTo_18 ?_
      refine lv_topi (fun x_114 ex_114 => ?_)
      have tx_114 : x_114.toInt = x_94.toInt + (1) := addI (A := x_94.toInt) (B := 1) ex_114 rfl rfl (by  omega) (by  omega)
      refine lv_istore (lv' := [(4, .int x_114), (3, .int x_93), (0, .ref y), (1, .int k), (2, .int wy)]) S.1 S.2.1 dX9_nextTo_19 hl (by decide) rfl (fun ls hl => ?_)
      refine lv_aload_n S.1 S.2.1 dX9_nextTo_21 rfl (lv_at hl 2 rfl) ?_
      refine lv_iload_n S.1 S.2.1 dX9_nextTo_22 rfl (lv_at hl 1 rfl) ?_
      refine lv_iload S.1 S.2.1 dX9_nextTo_23 (lv_at hl 0 rfl) ?_
      refine b_ai (wr := []) (b_runV (q0 := 0) (ci := 9) (As := [.int x_93, .int x_114]) (s_X9_isIn l D cI cZ cC cS sq H.size y y_city x_93 x_114 m_thrown m_status y_lane y_many y_item y_fresh m_isThere y_tape m_taped m_latest m_length m_cursor m_token m_start m_till m_fault m_faultAt m_seen m_mirrors y_cost y_away y_fee y_goesTo y_priceWas y_isKept y_kept y_trace m_traced cy (by first | with_reducible assumption | assumption | omega | decide | (rw [show Int32.toInt 0 = 0 from rfl]; omega))) S gX9_nextTo_X9_isIn rfl hdV_X9_isIn ⟨Nat.le_of_ble_eq_true rfl, Nat.le_of_ble_eq_true rfl⟩ ⟨Nat.le_of_ble_eq_true rfl, Nat.le_of_ble_eq_true rfl⟩ hK hT hS hA hP hD rfl rfl [0, 1] rfl (by decide) rfl hl.1 rfl (Nat.le_of_ble_eq_true rfl) dX9_nextTo_25) hP hD hS hA [0, 1] [] rfl rfl (by decide) (by decide) (fun r_115 w_116 H locs hw_117 hP hD hS => ?_)
      rcases hw_117 with ⟨hf_118, rfl, rfl⟩ | ⟨hf_119, rfl, rfl⟩
      · have hP : va_P D vwCl [(y, .inr (9, [.int m_thrown, .int m_status, .ref y_lane, .ref y_many, .ref y_item, .ref y_city, .ref y_fresh, .int m_isThere, .ref y_tape, .int m_taped, .int m_latest, .int m_length, .int m_cursor, .int m_token, .int m_start, .int m_till, .int m_fault, .int m_faultAt, .int m_seen, .int m_mirrors, .ref y_cost, .ref y_away, .ref y_fee, .ref y_goesTo, .ref y_priceWas, .ref y_isKept, .ref y_kept, .ref y_trace, .int m_traced])), (y_city, .inl (cI, 192, .inl cy))] H := hP
        have hD : va_D A [(y, .inr (9, [.int m_thrown, .int m_status, .ref y_lane, .ref y_many, .ref y_item, .ref y_city, .ref y_fresh, .int m_isThere, .ref y_tape, .int m_taped, .int m_latest, .int m_length, .int m_cursor, .int m_token, .int m_start, .int m_till, .int m_fault, .int m_faultAt, .int m_seen, .int m_mirrors, .ref y_cost, .ref y_away, .ref y_fee, .ref y_goesTo, .ref y_priceWas, .ref y_isKept, .ref y_kept, .ref y_trace, .int m_traced])), (y_city, .inl (cI, 192, .inl cy))] := hD
        refine lv_if_eq (tgt := 41) S.1 S.2.1 dX9_nextTo_28 (by decide) (fun c_120 => absurd c_120 (by decide)) (fun c_120 => ?_)
        refine lv_iload_n S.1 S.2.1 dX9_nextTo_31 rfl (lv_at hl 1 rfl) ?_
        refine lv_bipush (v := (10)) S.1 S.2.1 dX9_nextTo_32 (by decide) ?_
        refine lv_iload S.1 S.2.1 dX9_nextTo_34 (lv_at hl 0 rfl) ?_
        refine lv_imul S.1 S.2.1 dX9_nextTo_36 ?_
        refine lv_topi (fun x_121 ex_121 => ?_)
        have tx_121 : x_121.toInt = 10 * x_114.toInt := mulI (A := 10) (B := x_114.toInt) ex_121 rfl rfl (by  omega) (by  omega)
        refine lv_iadd S.1 S.2.1 dX9_nextTo_37 ?_
        refine lv_topi (fun x_122 ex_122 => ?_)
        have tx_122 : x_122.toInt = x_93.toInt + (x_121.toInt) := addI (A := x_93.toInt) (B := x_121.toInt) ex_122 rfl rfl (by  omega) (by  omega)
        refine lv_goto (tgt := 42) S.1 S.2.1 dX9_nextTo_38 (by decide) ?_
        exact b_iret S.1 S.2.1 X.2.1 X.2.2.1 hP hD hS (Or.inl ⟨(by first | with_reducible assumption | (and_intros <;> first | with_reducible assumption | (intros; refine Int.le_antisymm ?_ ?_ <;> omega) | omega) | assumption | decide | (rw [show Int32.toInt 0 = 0 from rfl]; omega)), (by unfold nbT; first | (rw [if_pos (by first | (refine Int.le_antisymm ?_ ?_ <;> omega) | omega)]; omega) | (rw [if_neg (by first | (refine Int.le_antisymm ?_ ?_ <;> omega) | omega)])), rfl⟩) dX9_nextTo_42
      · have hP : va_P D vwCl [(y, .inr (9, [.int m_thrown, .int m_status, .ref y_lane, .ref y_many, .ref y_item, .ref y_city, .ref y_fresh, .int m_isThere, .ref y_tape, .int m_taped, .int m_latest, .int m_length, .int m_cursor, .int m_token, .int m_start, .int m_till, .int m_fault, .int m_faultAt, .int m_seen, .int m_mirrors, .ref y_cost, .ref y_away, .ref y_fee, .ref y_goesTo, .ref y_priceWas, .ref y_isKept, .ref y_kept, .ref y_trace, .int m_traced])), (y_city, .inl (cI, 192, .inl cy))] H := hP
        have hD : va_D A [(y, .inr (9, [.int m_thrown, .int m_status, .ref y_lane, .ref y_many, .ref y_item, .ref y_city, .ref y_fresh, .int m_isThere, .ref y_tape, .int m_taped, .int m_latest, .int m_length, .int m_cursor, .int m_token, .int m_start, .int m_till, .int m_fault, .int m_faultAt, .int m_seen, .int m_mirrors, .ref y_cost, .ref y_away, .ref y_fee, .ref y_goesTo, .ref y_priceWas, .ref y_isKept, .ref y_kept, .ref y_trace, .int m_traced])), (y_city, .inl (cI, 192, .inl cy))] := hD
        refine lv_if_eq (tgt := 41) S.1 S.2.1 dX9_nextTo_28 (by decide) (fun c_123 => ?_) (fun c_123 => absurd c_123 (by decide))
        refine lv_iconst (v := (-1)) S.1 S.2.1 dX9_nextTo_41 (by decide) ?_
        exact b_iret S.1 S.2.1 X.2.1 X.2.2.1 hP hD hS (Or.inr (⟨(by unfold nbT; first | (rw [if_pos (by first | (refine Int.le_antisymm ?_ ?_ <;> omega) | omega)]; omega) | (rw [if_neg (by first | (refine Int.le_antisymm ?_ ?_ <;> omega) | omega)])), rfl, rfl⟩)) dX9_nextTo_42
    · have hP : va_P D vwCl [(y, .inr (9, [.int m_thrown, .int m_status, .ref y_lane, .ref y_many, .ref y_item, .ref y_city, .ref y_fresh, .int m_isThere, .ref y_tape, .int m_taped, .int m_latest, .int m_length, .int m_cursor, .int m_token, .int m_start, .int m_till, .int m_fault, .int m_faultAt, .int m_seen, .int m_mirrors, .ref y_cost, .ref y_away, .ref y_fee, .ref y_goesTo, .ref y_priceWas, .ref y_isKept, .ref y_kept, .ref y_trace, .int m_traced])), (y_city, .inl (cI, 192, .inl cy))] H := hP
      have hD : va_D A [(y, .inr (9, [.int m_thrown, .int m_status, .ref y_lane, .ref y_many, .ref y_item, .ref y_city, .ref y_fresh, .int m_isThere, .ref y_tape, .int m_taped, .int m_latest, .int m_length, .int m_cursor, .int m_token, .int m_start, .int m_till, .int m_fault, .int m_faultAt, .int m_seen, .int m_mirrors, .ref y_cost, .ref y_away, .ref y_fee, .ref y_goesTo, .ref y_priceWas, .ref y_isKept, .ref y_kept, .ref y_trace, .int m_traced])), (y_city, .inl (cI, 192, .inl cy))] := hD
      refine lv_iadd S.1 S.2.1 dX9_nextTo_18 ?_
      refine lv_topi (fun x_124 ex_124 => ?_)
      have tx_124 : x_124.toInt = x_94.toInt + (-1) := addI (A := x_94.toInt) (B := -1) ex_124 rfl rfl (by  omega) (by  omega)
      refine lv_istore (lv' := [(4, .int x_124), (3, .int x_93), (0, .ref y), (1, .int k), (2, .int wy)]) S.1 S.2.1 dX9_nextTo_19 hl (by decide) rfl (fun ls hl => ?_)
      refine lv_aload_n S.1 S.2.1 dX9_nextTo_21 rfl (lv_at hl 2 rfl) ?_
      refine lv_iload_n S.1 S.2.1 dX9_nextTo_22 rfl (lv_at hl 1 rfl) ?_
      refine lv_iload S.1 S.2.1 dX9_nextTo_23 (lv_at hl 0 rfl) ?_
      refine b_ai (wr := []) (b_runV (q0 := 0) (ci := 9) (As := [.int x_93, .int x_124]) (s_X9_isIn l D cI cZ cC cS sq H.size y y_city x_93 x_124 m_thrown m_status y_lane y_many y_item y_fresh m_isThere y_tape m_taped m_latest m_length m_cursor m_token m_start m_till m_fault m_faultAt m_seen m_mirrors y_cost y_away y_fee y_goesTo y_priceWas y_isKept y_kept y_trace m_traced cy (by first | with_reducible assumption | assumption | omega | decide | (rw [show Int32.toInt 0 = 0 from rfl]; omega))) S gX9_nextTo_X9_isIn rfl hdV_X9_isIn ⟨Nat.le_of_ble_eq_true rfl, Nat.le_of_ble_eq_true rfl⟩ ⟨Nat.le_of_ble_eq_true rfl, Nat.le_of_ble_eq_true rfl⟩ hK hT hS hA hP hD rfl rfl [0, 1] rfl (by decide) rfl hl.1 rfl (Nat.le_of_ble_eq_true rfl) dX9_nextTo_25) hP hD hS hA [0, 1] [] rfl rfl (by decide) (by decide) (fun r_125 w_126 H locs hw_127 hP hD hS => ?_)
      rcases hw_127 with ⟨hf_128, rfl, rfl⟩ | ⟨hf_129, rfl, rfl⟩
      · have hP : va_P D vwCl [(y, .inr (9, [.int m_thrown, .int m_status, .ref y_lane, .ref y_many, .ref y_item, .ref y_city, .ref y_fresh, .int m_isThere, .ref y_tape, .int m_taped, .int m_latest, .int m_length, .int m_cursor, .int m_token, .int m_start, .int m_till, .int m_fault, .int m_faultAt, .int m_seen, .int m_mirrors, .ref y_cost, .ref y_away, .ref y_fee, .ref y_goesTo, .ref y_priceWas, .ref y_isKept, .ref y_kept, .ref y_trace, .int m_traced])), (y_city, .inl (cI, 192, .inl cy))] H := hP
        have hD : va_D A [(y, .inr (9, [.int m_thrown, .int m_status, .ref y_lane, .ref y_many, .ref y_item, .ref y_city, .ref y_fresh, .int m_isThere, .ref y_tape, .int m_taped, .int m_latest, .int m_length, .int m_cursor, .int m_token, .int m_start, .int m_till, .int m_fault, .int m_faultAt, .int m_seen, .int m_mirrors, .ref y_cost, .ref y_away, .ref y_fee, .ref y_goesTo, .ref y_priceWas, .ref y_isKept, .ref y_kept, .ref y_trace, .int m_traced])), (y_city, .inl (cI, 192, .inl cy))] := hD
        refine lv_if_eq (tgt := 41) S.1 S.2.1 dX9_nextTo_28 (by decide) (fun c_130 => absurd c_130 (by decide)) (fun c_130 => ?_)
        refine lv_iload_n S.1 S.2.1 dX9_nextTo_31 rfl (lv_at hl 1 rfl) ?_
        refine lv_bipush (v := (10)) S.1 S.2.1 dX9_nextTo_32 (by decide) ?_
        refine lv_iload S.1 S.2.1 dX9_nextTo_34 (lv_at hl 0 rfl) ?_
        refine lv_imul S.1 S.2.1 dX9_nextTo_36 ?_
        refine lv_topi (fun x_131 ex_131 => ?_)
        have tx_131 : x_131.toInt = 10 * x_124.toInt := mulI (A := 10) (B := x_124.toInt) ex_131 rfl rfl (by  omega) (by  omega)
        refine lv_iadd S.1 S.2.1 dX9_nextTo_37 ?_
        refine lv_topi (fun x_132 ex_132 => ?_)
        have tx_132 : x_132.toInt = x_93.toInt + (x_131.toInt) := addI (A := x_93.toInt) (B := x_131.toInt) ex_132 rfl rfl (by  omega) (by  omega)
        refine lv_goto (tgt := 42) S.1 S.2.1 dX9_nextTo_38 (by decide) ?_
        exact b_iret S.1 S.2.1 X.2.1 X.2.2.1 hP hD hS (Or.inl ⟨(by first | with_reducible assumption | (and_intros <;> first | with_reducible assumption | (intros; refine Int.le_antisymm ?_ ?_ <;> omega) | omega) | assumption | decide | (rw [show Int32.toInt 0 = 0 from rfl]; omega)), (by unfold nbT; first | (rw [if_pos (by first | (refine Int.le_antisymm ?_ ?_ <;> omega) | omega)]; omega) | (rw [if_neg (by first | (refine Int.le_antisymm ?_ ?_ <;> omega) | omega)])), rfl⟩) dX9_nextTo_42
      · have hP : va_P D vwCl [(y, .inr (9, [.int m_thrown, .int m_status, .ref y_lane, .ref y_many, .ref y_item, .ref y_city, .ref y_fresh, .int m_isThere, .ref y_tape, .int m_taped, .int m_latest, .int m_length, .int m_cursor, .int m_token, .int m_start, .int m_till, .int m_fault, .int m_faultAt, .int m_seen, .int m_mirrors, .ref y_cost, .ref y_away, .ref y_fee, .ref y_goesTo, .ref y_priceWas, .ref y_isKept, .ref y_kept, .ref y_trace, .int m_traced])), (y_city, .inl (cI, 192, .inl cy))] H := hP
        have hD : va_D A [(y, .inr (9, [.int m_thrown, .int m_status, .ref y_lane, .ref y_many, .ref y_item, .ref y_city, .ref y_fresh, .int m_isThere, .ref y_tape, .int m_taped, .int m_latest, .int m_length, .int m_cursor, .int m_token, .int m_start, .int m_till, .int m_fault, .int m_faultAt, .int m_seen, .int m_mirrors, .ref y_cost, .ref y_away, .ref y_fee, .ref y_goesTo, .ref y_priceWas, .ref y_isKept, .ref y_kept, .ref y_trace, .int m_traced])), (y_city, .inl (cI, 192, .inl cy))] := hD
        refine lv_if_eq (tgt := 41) S.1 S.2.1 dX9_nextTo_28 (by decide) (fun c_133 => ?_) (fun c_133 => absurd c_133 (by decide))
        refine lv_iconst (v := (-1)) S.1 S.2.1 dX9_nextTo_41 (by decide) ?_
        exact b_iret S.1 S.2.1 X.2.1 X.2.2.1 hP hD hS (Or.inr (⟨(by unfold nbT; first | (rw [if_pos (by first | (refine Int.le_antisymm ?_ ?_ <;> omega) | omega)]; omega) | (rw [if_neg (by first | (refine Int.le_antisymm ?_ ?_ <;> omega) | omega)])), rfl, rfl⟩)) dX9_nextTo_42
theorem opY {g : Nat → Int} {cy : Nat → Int32} {k : Int} (h : GY g cy) (hg : gB g) : opn cy k ↔ opK g k := by
  unfold opn opK insK
  constructor
  · intro z
    have e0 := h.1
    have e1 := h.2.1
    have e := h.2.2 k.toNat (by first | (refine Int.le_antisymm ?_ ?_ <;> omega) | omega) (by unfold insG; omega)
    omega
  · intro z
    have e0 := h.1
    have e1 := h.2.1
    have b := hg.2
    have e := h.2.2 k.toNat (by first | (refine Int.le_antisymm ?_ ?_ <;> omega) | omega) (by unfold insG; omega)
    omega
set_option maxHeartbeats 4000000 in
set_option maxRecDepth 100000 in
theorem lp_firstShut_x {p : Program} (l : Launch) {e : Env} {s : State} {m : MethodId} {below : List Frame} {meth : Method} {c : Code} (D : va_G) (cI cZ cC cS : ClassId) (sq : Nat → Nat) (y : Nat) (y_city : Nat) (k : Int32) (wy : Int32) (m_thrown : Int32) (m_status : Int32) (y_lane : Nat) (y_many : Nat) (y_item : Nat) (y_fresh : Nat) (m_isThere : Int32) (y_tape : Nat) (m_taped : Int32) (m_latest : Int32) (m_length : Int32) (m_cursor : Int32) (m_token : Int32) (m_start : Int32) (m_till : Int32) (m_fault : Int32) (m_faultAt : Int32) (m_seen : Int32) (m_mirrors : Int32) (y_cost : Nat) (y_away : Nat) (y_fee : Nat) (y_goesTo : Nat) (y_priceWas : Nat) (y_isKept : Nat) (y_kept : Nat) (y_trace : Nat) (m_traced : Int32) (cy : Nat → Int32) (gg : Nat → Int) (hpd_cy : prd cyK 192 cy) (hk : 0 ≤ k.toInt ∧ k.toInt < 80) (hy : 0 ≤ wy.toInt ∧ wy.toInt < 8) (hgy : GY gg cy) (hgb : gB gg) {A : Nat → Prop} (X : bX p s m meth c cX9_firstShut 4 wsX9_firstShut yX9_firstShut (some .int) [.ref y, .int k, .int wy]) (hK : kW D (tyW cI cZ cC cS) sq s) (hT : sT sq A s s.heap) (hA : ∀ q, s.heap.size ≤ q → A q) (K : ∀ (at_ : Int32), (prd cyK 192 cy) → (-1 ≤ at_.toInt ∧ at_.toInt < 80) → (at_.toInt = -1 ∨ insK gg at_.toInt) → (fsT gg wy.toInt at_.toInt = s1T gg k.toInt wy.toInt) → (at_.toInt < 0 ∨ ¬ (cy (4 + at_.toInt.toNat)).toInt = -3) → ∀ (H : Heap) (locs : List Loc) (ls : Array Slot), va_P D vwCl [(y, .inr (9, [.int m_thrown, .int m_status, .ref y_lane, .ref y_many, .ref y_item, .ref y_city, .ref y_fresh, .int m_isThere, .ref y_tape, .int m_taped, .int m_latest, .int m_length, .int m_cursor, .int m_token, .int m_start, .int m_till, .int m_fault, .int m_faultAt, .int m_seen, .int m_mirrors, .ref y_cost, .ref y_away, .ref y_fee, .ref y_goesTo, .ref y_priceWas, .ref y_isKept, .ref y_kept, .ref y_trace, .int m_traced])), (y_city, .inl (cI, 192, .inl cy))] H → va_D A [(y, .inr (9, [.int m_thrown, .int m_status, .ref y_lane, .ref y_many, .ref y_item, .ref y_city, .ref y_fresh, .int m_isThere, .ref y_tape, .int m_taped, .int m_latest, .int m_length, .int m_cursor, .int m_token, .int m_start, .int m_till, .int m_fault, .int m_faultAt, .int m_seen, .int m_mirrors, .ref y_cost, .ref y_away, .ref y_fee, .ref y_goesTo, .ref y_priceWas, .ref y_isKept, .ref y_kept, .ref y_trace, .int m_traced])), (y_city, .inl (cI, 192, .inl cy))] → va_S A s.heap H locs → lv_has ls 4 [(3, .int at_), (0, .ref y), (1, .int k), (2, .int wy)] → W p l e (rmW 3 120 0 0) s m ([.ref y, .int k, .int wy] : List Value).toArray below meth c H locs 0 0 (MQ below (va_Qi (fun r w => ((-1 ≤ r.toInt ∧ r.toInt < 80) ∧ (r.toInt = s1T gg k.toInt wy.toInt) ∧ w = [(y, .inr (9, [.int m_thrown, .int m_status, .ref y_lane, .ref y_many, .ref y_item, .ref y_city, .ref y_fresh, .int m_isThere, .ref y_tape, .int m_taped, .int m_latest, .int m_length, .int m_cursor, .int m_token, .int m_start, .int m_till, .int m_fault, .int m_faultAt, .int m_seen, .int m_mirrors, .ref y_cost, .ref y_away, .ref y_fee, .ref y_goesTo, .ref y_priceWas, .ref y_isKept, .ref y_kept, .ref y_trace, .int m_traced])), (y_city, .inl (cI, 192, .inl cy))])) (wD D A) A) ([.ref y, .int k, .int wy] : List Value).toArray s 0 0 A) (F0 m 34 ls [])) : ∀ (mN : Nat) (at_ : Int32), (prd cyK 192 cy) → (-1 ≤ at_.toInt ∧ at_.toInt < 80) → (at_.toInt = -1 ∨ insK gg at_.toInt) → (fsT gg wy.toInt at_.toInt = s1T gg k.toInt wy.toInt) → (fsM wy.toInt at_.toInt < mN) → ∀ (H : Heap) (locs : List Loc) (ls : Array Slot), va_P D vwCl [(y, .inr (9, [.int m_thrown, .int m_status, .ref y_lane, .ref y_many, .ref y_item, .ref y_city, .ref y_fresh, .int m_isThere, .ref y_tape, .int m_taped, .int m_latest, .int m_length, .int m_cursor, .int m_token, .int m_start, .int m_till, .int m_fault, .int m_faultAt, .int m_seen, .int m_mirrors, .ref y_cost, .ref y_away, .ref y_fee, .ref y_goesTo, .ref y_priceWas, .ref y_isKept, .ref y_kept, .ref y_trace, .int m_traced])), (y_city, .inl (cI, 192, .inl cy))] H → va_D A [(y, .inr (9, [.int m_thrown, .int m_status, .ref y_lane, .ref y_many, .ref y_item, .ref y_city, .ref y_fresh, .int m_isThere, .ref y_tape, .int m_taped, .int m_latest, .int m_length, .int m_cursor, .int m_token, .int m_start, .int m_till, .int m_fault, .int m_faultAt, .int m_seen, .int m_mirrors, .ref y_cost, .ref y_away, .ref y_fee, .ref y_goesTo, .ref y_priceWas, .ref y_isKept, .ref y_kept, .ref y_trace, .int m_traced])), (y_city, .inl (cI, 192, .inl cy))] → va_S A s.heap H locs → lv_has ls 4 [(3, .int at_), (0, .ref y), (1, .int k), (2, .int wy)] → W p l e (rmW 3 120 0 0) s m ([.ref y, .int k, .int wy] : List Value).toArray below meth c H locs 0 0 (MQ below (va_Qi (fun r w => ((-1 ≤ r.toInt ∧ r.toInt < 80) ∧ (r.toInt = s1T gg k.toInt wy.toInt) ∧ w = [(y, .inr (9, [.int m_thrown, .int m_status, .ref y_lane, .ref y_many, .ref y_item, .ref y_city, .ref y_fresh, .int m_isThere, .ref y_tape, .int m_taped, .int m_latest, .int m_length, .int m_cursor, .int m_token, .int m_start, .int m_till, .int m_fault, .int m_faultAt, .int m_seen, .int m_mirrors, .ref y_cost, .ref y_away, .ref y_fee, .ref y_goesTo, .ref y_priceWas, .ref y_isKept, .ref y_kept, .ref y_trace, .int m_traced])), (y_city, .inl (cI, 192, .inl cy))])) (wD D A) A) ([.ref y, .int k, .int wy] : List Value).toArray s 0 0 A) (F0 m 7 ls []) := by
  have S : CallFix p m c cX9_firstShut 4 s ([.ref y, .int k, .int wy] : List Value).toArray wsX9_firstShut RX9 := X.1
  have iX9 := jX9_firstShut_X9
  intro mN
  induction mN with
  | zero => intro at_ hpd_cy hat hai hfs hm; exact absurd hm (Nat.not_lt_zero _)
  | succ mN ih =>
    intro at_ hpd_cy hat hai hfs hm H locs ls hP hD hS hl
    refine lv_iload_n S.1 S.2.1 dX9_firstShut_7 rfl (lv_at hl 0 rfl) ?_
    refine lv_if_lt (tgt := 34) S.1 S.2.1 dX9_firstShut_8 (by decide) (fun c_101 => ?_) (fun c_101 => ?_)
    · rw [lt2 (a := at_) (b := 0) (A := at_.toInt) (B := 0) rfl rfl] at c_101
      exact K at_ (by first | with_reducible assumption | assumption | omega | decide | (rw [show Int32.toInt 0 = 0 from rfl]; omega)) (by first | with_reducible assumption | (and_intros <;> first | with_reducible assumption | (intros; refine Int.le_antisymm ?_ ?_ <;> omega) | omega) | assumption | decide | (rw [show Int32.toInt 0 = 0 from rfl]; omega)) (by first | assumption | exact Or.inl (by decide) | exact nbY_K hgy hgb (by assumption)) (by first | assumption | exact fs_st hgy hgb hy hfs hai (by assumption) (by first | (refine Int.le_antisymm ?_ ?_ <;> omega) | omega) (by first | (refine Int.le_antisymm ?_ ?_ <;> omega) | omega) | (rw [show Int32.toInt (-1) = -1 from by decide]; exact fs_st hgy hgb hy hfs hai (by assumption) (by first | (refine Int.le_antisymm ?_ ?_ <;> omega) | omega) (by first | (refine Int.le_antisymm ?_ ?_ <;> omega) | omega))) (by first | exact Or.inl (by first | (refine Int.le_antisymm ?_ ?_ <;> omega) | omega) | exact Or.inr (by first | (refine Int.le_antisymm ?_ ?_ <;> omega) | omega)) H _ ls hP hD hS (lv_sub hl [0, 1, 2, 3] rfl)
    · rw [lt2 (a := at_) (b := 0) (A := at_.toInt) (B := 0) rfl rfl] at c_101
      refine lv_aload_n S.1 S.2.1 dX9_firstShut_11 rfl (lv_at hl 1 rfl) ?_
      refine b_get (v := .ref y_city) S iX9 hK hP 0 rfl rfl 5 (by decide) (by decide +kernel) rfl dX9_firstShut_12 ?_
      refine lv_iconst (v := (4)) S.1 S.2.1 dX9_firstShut_15 (by decide) ?_
      refine lv_iload_n S.1 S.2.1 dX9_firstShut_16 rfl (lv_at hl 0 rfl) ?_
      refine lv_iadd S.1 S.2.1 dX9_firstShut_17 ?_
      refine lv_topi (fun x_102 ex_102 => ?_)
      have tx_102 : x_102.toInt = 4 + (at_.toInt) := addI (A := 4) (B := at_.toInt) ex_102 rfl rfl (by  omega) (by  omega)
      have hin_103 : vp_in x_102 192 := (in_of (n := 192) (by  omega) (by  omega))
      refine va_iald S.1 S.2.1 hK.1 hP 1 0 rfl rfl hin_103 dX9_firstShut_18 ?_
      refine lv_topi (fun x_104 ex_104 => ?_)
      have tx_104 := cyg_A (x := x_104) (show prd cyK 192 cy by assumption) (by first | (refine Int.le_antisymm ?_ ?_ <;> omega) | omega) ex_104
      have cex_104 : x_104.toInt = (cy (4 + (at_).toInt.toNat)).toInt := by rw [ex_104]; exact congrArg (fun z => (cy z).toInt) (by show (x_102).toInt.toNat = _; omega)
      refine lv_bipush (v := (-3)) S.1 S.2.1 dX9_firstShut_19 (by decide) ?_
      refine lv_icmp_ne (tgt := 34) S.1 S.2.1 dX9_firstShut_21 (by decide) (fun c_105 => ?_) (fun c_105 => ?_)
      · rw [eq2 (a := x_104) (b := (-3)) (A := x_104.toInt) (B := -3) rfl rfl] at c_105
        exact K at_ (by first | with_reducible assumption | assumption | omega | decide | (rw [show Int32.toInt 0 = 0 from rfl]; omega)) (by first | with_reducible assumption | (and_intros <;> first | with_reducible assumption | (intros; refine Int.le_antisymm ?_ ?_ <;> omega) | omega) | assumption | decide | (rw [show Int32.toInt 0 = 0 from rfl]; omega)) (by first | assumption | exact Or.inl (by decide) | exact nbY_K hgy hgb (by assumption)) (by first | assumption | exact fs_st hgy hgb hy hfs hai (by assumption) (by first | (refine Int.le_antisymm ?_ ?_ <;> omega) | omega) (by first | (refine Int.le_antisymm ?_ ?_ <;> omega) | omega) | (rw [show Int32.toInt (-1) = -1 from by decide]; exact fs_st hgy hgb hy hfs hai (by assumption) (by first | (refine Int.le_antisymm ?_ ?_ <;> omega) | omega) (by first | (refine Int.le_antisymm ?_ ?_ <;> omega) | omega))) (by first | exact Or.inl (by first | (refine Int.le_antisymm ?_ ?_ <;> omega) | omega) | exact Or.inr (by first | (refine Int.le_antisymm ?_ ?_ <;> omega) | omega)) H _ ls hP hD hS (lv_sub hl [0, 1, 2, 3] rfl)
      · rw [eq2 (a := x_104) (b := (-3)) (A := x_104.toInt) (B := -3) rfl rfl] at c_105
        refine lv_aload_n S.1 S.2.1 dX9_firstShut_24 rfl (lv_at hl 1 rfl) ?_
        refine lv_iload_n S.1 S.2.1 dX9_firstShut_25 rfl (lv_at hl 0 rfl) ?_
        refine lv_iload_n S.1 S.2.1 dX9_firstShut_26 rfl (lv_at hl 3 rfl) ?_
        refine b_ai (wr := []) (b_runV (q0 := 0) (ci := 9) (As := [.int at_, .int wy]) (s_X9_nextTo l D cI cZ cC cS sq H.size y y_city at_ wy m_thrown m_status y_lane y_many y_item y_fresh m_isThere y_tape m_taped m_latest m_length m_cursor m_token m_start m_till m_fault m_faultAt m_seen m_mirrors y_cost y_away y_fee y_goesTo y_priceWas y_isKept y_kept y_trace m_traced cy (by first | with_reducible assumption | assumption | omega | decide | (rw [show Int32.toInt 0 = 0 from rfl]; omega)) (by first | with_reducible assumption | (and_intros <;> first | with_reducible assumption | (intros; refine Int.le_antisymm ?_ ?_ <;> omega) | omega) | assumption | decide | (rw [show Int32.toInt 0 = 0 from rfl]; omega)) (by first | with_reducible assumption | (and_intros <;> first | with_reducible assumption | (intros; refine Int.le_antisymm ?_ ?_ <;> omega) | omega) | assumption | decide | (rw [show Int32.toInt 0 = 0 from rfl]; omega))) S gX9_firstShut_X9_nextTo rfl hdV_X9_nextTo ⟨Nat.le_of_ble_eq_true rfl, Nat.le_of_ble_eq_true rfl⟩ ⟨Nat.le_of_ble_eq_true rfl, Nat.le_of_ble_eq_true rfl⟩ hK hT hS hA hP hD rfl rfl [0, 1] rfl (by decide) rfl hl.1 rfl (Nat.le_of_ble_eq_true rfl) dX9_firstShut_27) hP hD hS hA [0, 1] [] rfl rfl (by decide) (by decide) (fun r_106 w_107 H locs hw_108 hP hD hS => ?_)
        rcases hw_108 with ⟨hf_109, hf_110, rfl⟩ | ⟨hf_111, rfl, rfl⟩
        · have hP : va_P D vwCl [(y, .inr (9, [.int m_thrown, .int m_status, .ref y_lane, .ref y_many, .ref y_item, .ref y_city, .ref y_fresh, .int m_isThere, .ref y_tape, .int m_taped, .int m_latest, .int m_length, .int m_cursor, .int m_token, .int m_start, .int m_till, .int m_fault, .int m_faultAt, .int m_seen, .int m_mirrors, .ref y_cost, .ref y_away, .ref y_fee, .ref y_goesTo, .ref y_priceWas, .ref y_isKept, .ref y_kept, .ref y_trace, .int m_traced])), (y_city, .inl (cI, 192, .inl cy))] H := hP
          have hD : va_D A [(y, .inr (9, [.int m_thrown, .int m_status, .ref y_lane, .ref y_many, .ref y_item, .ref y_city, .ref y_fresh, .int m_isThere, .ref y_tape, .int m_taped, .int m_latest, .int m_length, .int m_cursor, .int m_token, .int m_start, .int m_till, .int m_fault, .int m_faultAt, .int m_seen, .int m_mirrors, .ref y_cost, .ref y_away, .ref y_fee, .ref y_goesTo, .ref y_priceWas, .ref y_isKept, .ref y_kept, .ref y_trace, .int m_traced])), (y_city, .inl (cI, 192, .inl cy))] := hD
          refine lv_istore_n (lv' := [(3, .int r_106), (0, .ref y), (1, .int k), (2, .int wy)]) S.1 S.2.1 dX9_firstShut_30 rfl hl (by decide) rfl (fun ls hl => ?_)
          refine lv_goto (tgt := 7) S.1 S.2.1 dX9_firstShut_31 (by decide) ?_
          exact ih r_106 (by first | with_reducible assumption | assumption | omega | decide | (rw [show Int32.toInt 0 = 0 from rfl]; omega)) (by first | with_reducible assumption | (and_intros <;> first | with_reducible assumption | (intros; refine Int.le_antisymm ?_ ?_ <;> omega) | omega) | assumption | decide | (rw [show Int32.toInt 0 = 0 from rfl]; omega)) (by first | assumption | exact Or.inl (by decide) | exact nbY_K hgy hgb (by assumption)) (by first | assumption | exact fs_st hgy hgb hy hfs hai (by assumption) (by first | (refine Int.le_antisymm ?_ ?_ <;> omega) | omega) (by first | (refine Int.le_antisymm ?_ ?_ <;> omega) | omega) | (rw [show Int32.toInt (-1) = -1 from by decide]; exact fs_st hgy hgb hy hfs hai (by assumption) (by first | (refine Int.le_antisymm ?_ ?_ <;> omega) | omega) (by first | (refine Int.le_antisymm ?_ ?_ <;> omega) | omega))) (by first | omega | exact fsM_lt hm (by first | (refine Int.le_antisymm ?_ ?_ <;> omega) | omega) (by first | exact Or.inl rfl | exact Or.inl (by decide) | exact Or.inr (by first | (refine Int.le_antisymm ?_ ?_ <;> omega) | omega))) H _ ls hP hD hS (lv_sub hl [0, 1, 2, 3] rfl)
        · have hP : va_P D vwCl [(y, .inr (9, [.int m_thrown, .int m_status, .ref y_lane, .ref y_many, .ref y_item, .ref y_city, .ref y_fresh, .int m_isThere, .ref y_tape, .int m_taped, .int m_latest, .int m_length, .int m_cursor, .int m_token, .int m_start, .int m_till, .int m_fault, .int m_faultAt, .int m_seen, .int m_mirrors, .ref y_cost, .ref y_away, .ref y_fee, .ref y_goesTo, .ref y_priceWas, .ref y_isKept, .ref y_kept, .ref y_trace, .int m_traced])), (y_city, .inl (cI, 192, .inl cy))] H := hP
          have hD : va_D A [(y, .inr (9, [.int m_thrown, .int m_status, .ref y_lane, .ref y_many, .ref y_item, .ref y_city, .ref y_fresh, .int m_isThere, .ref y_tape, .int m_taped, .int m_latest, .int m_length, .int m_cursor, .int m_token, .int m_start, .int m_till, .int m_fault, .int m_faultAt, .int m_seen, .int m_mirrors, .ref y_cost, .ref y_away, .ref y_fee, .ref y_goesTo, .ref y_priceWas, .ref y_isKept, .ref y_kept, .ref y_trace, .int m_traced])), (y_city, .inl (cI, 192, .inl cy))] := hD
          refine lv_istore_n (lv' := [(3, .int (-1)), (0, .ref y), (1, .int k), (2, .int wy)]) S.1 S.2.1 dX9_firstShut_30 rfl hl (by decide) rfl (fun ls hl => ?_)
          refine lv_goto (tgt := 7) S.1 S.2.1 dX9_firstShut_31 (by decide) ?_
          have lqm1 : Int32.toInt (-1) = -1 := by decide
          exact ih (-1) (by first | with_reducible assumption | assumption | omega | decide | (rw [show Int32.toInt 0 = 0 from rfl]; omega)) (by first | with_reducible assumption | (and_intros <;> first | with_reducible assumption | (intros; refine Int.le_antisymm ?_ ?_ <;> omega) | omega) | assumption | decide | (rw [show Int32.toInt 0 = 0 from rfl]; omega)) (by first | assumption | exact Or.inl (by decide) | exact nbY_K hgy hgb (by assumption)) (by first | assumption | exact fs_st hgy hgb hy hfs hai (by assumption) (by first | (refine Int.le_antisymm ?_ ?_ <;> omega) | omega) (by first | (refine Int.le_antisymm ?_ ?_ <;> omega) | omega) | (rw [show Int32.toInt (-1) = -1 from by decide]; exact fs_st hgy hgb hy hfs hai (by assumption) (by first | (refine Int.le_antisymm ?_ ?_ <;> omega) | omega) (by first | (refine Int.le_antisymm ?_ ?_ <;> omega) | omega))) (by first | omega | exact fsM_lt hm (by first | (refine Int.le_antisymm ?_ ?_ <;> omega) | omega) (by first | exact Or.inl rfl | exact Or.inl (by decide) | exact Or.inr (by first | (refine Int.le_antisymm ?_ ?_ <;> omega) | omega))) H _ ls hP hD hS (lv_sub hl [0, 1, 2, 3] rfl)
set_option maxHeartbeats 4000000 in
set_option maxRecDepth 100000 in
theorem s_X9_firstShut_x (l : Launch) (D : va_G) (cI cZ cC cS : ClassId) (sq : Nat → Nat) (sz : Nat) (y : Nat) (y_city : Nat) (k : Int32) (wy : Int32) (m_thrown : Int32) (m_status : Int32) (y_lane : Nat) (y_many : Nat) (y_item : Nat) (y_fresh : Nat) (m_isThere : Int32) (y_tape : Nat) (m_taped : Int32) (m_latest : Int32) (m_length : Int32) (m_cursor : Int32) (m_token : Int32) (m_start : Int32) (m_till : Int32) (m_fault : Int32) (m_faultAt : Int32) (m_seen : Int32) (m_mirrors : Int32) (y_cost : Nat) (y_away : Nat) (y_fee : Nat) (y_goesTo : Nat) (y_priceWas : Nat) (y_isKept : Nat) (y_kept : Nat) (y_trace : Nat) (m_traced : Int32) (cy : Nat → Int32) (gg : Nat → Int) (hpd_cy : prd cyK 192 cy) (hk : 0 ≤ k.toInt ∧ k.toInt < 80) (hy : 0 ≤ wy.toInt ∧ wy.toInt < 8) (hgy : GY gg cy) (hgb : gB gg) : mI l yX9_firstShut wsX9_firstShut 3 120 D (tyW cI cZ cC cS) sq [(y, .inr (9, [.int m_thrown, .int m_status, .ref y_lane, .ref y_many, .ref y_item, .ref y_city, .ref y_fresh, .int m_isThere, .ref y_tape, .int m_taped, .int m_latest, .int m_length, .int m_cursor, .int m_token, .int m_start, .int m_till, .int m_fault, .int m_faultAt, .int m_seen, .int m_mirrors, .ref y_cost, .ref y_away, .ref y_fee, .ref y_goesTo, .ref y_priceWas, .ref y_isKept, .ref y_kept, .ref y_trace, .int m_traced])), (y_city, .inl (cI, 192, .inl cy))] sz [.ref y, .int k, .int wy] (fun r w => ((-1 ≤ r.toInt ∧ r.toInt < 80) ∧ (r.toInt = s1T gg k.toInt wy.toInt) ∧ w = [(y, .inr (9, [.int m_thrown, .int m_status, .ref y_lane, .ref y_many, .ref y_item, .ref y_city, .ref y_fresh, .int m_isThere, .ref y_tape, .int m_taped, .int m_latest, .int m_length, .int m_cursor, .int m_token, .int m_start, .int m_till, .int m_fault, .int m_faultAt, .int m_seen, .int m_mirrors, .ref y_cost, .ref y_away, .ref y_fee, .ref y_goesTo, .ref y_priceWas, .ref y_isKept, .ref y_kept, .ref y_trace, .int m_traced])), (y_city, .inl (cI, 192, .inl cy))])) := by
  refine b_metI (cc := cX9_firstShut) (maxL := 4) (ret := (some .int)) (by decide) rfl (Nat.le_of_ble_eq_true rfl) ?_
  intro p e s m below meth c ls A H X hsz hP hK hT hD hA hS hl
  have S : CallFix p m c cX9_firstShut 4 s ([.ref y, .int k, .int wy] : List Value).toArray wsX9_firstShut RX9 := X.1
  have hl : lv_has ls 4 [(0, .ref y), (1, .int k), (2, .int wy)] := hl
  refine lv_aload_n S.1 S.2.1 dX9_firstShut_0 rfl (lv_at hl 0 rfl) ?_
  refine lv_iload_n S.1 S.2.1 dX9_firstShut_1 rfl (lv_at hl 1 rfl) ?_
  refine lv_iload_n S.1 S.2.1 dX9_firstShut_2 rfl (lv_at hl 2 rfl) ?_
  refine b_ai (wr := []) (b_runV (q0 := 0) (ci := 9) (As := [.int k, .int wy]) (s_X9_nextTo l D cI cZ cC cS sq H.size y y_city k wy m_thrown m_status y_lane y_many y_item y_fresh m_isThere y_tape m_taped m_latest m_length m_cursor m_token m_start m_till m_fault m_faultAt m_seen m_mirrors y_cost y_away y_fee y_goesTo y_priceWas y_isKept y_kept y_trace m_traced cy (by first | with_reducible assumption | assumption | omega | decide | (rw [show Int32.toInt 0 = 0 from rfl]; omega)) (by first | with_reducible assumption | (and_intros <;> first | with_reducible assumption | (intros; refine Int.le_antisymm ?_ ?_ <;> omega) | omega) | assumption | decide | (rw [show Int32.toInt 0 = 0 from rfl]; omega)) (by first | with_reducible assumption | (and_intros <;> first | with_reducible assumption | (intros; refine Int.le_antisymm ?_ ?_ <;> omega) | omega) | assumption | decide | (rw [show Int32.toInt 0 = 0 from rfl]; omega))) S gX9_firstShut_X9_nextTo rfl hdV_X9_nextTo ⟨Nat.le_of_ble_eq_true rfl, Nat.le_of_ble_eq_true rfl⟩ ⟨Nat.le_of_ble_eq_true rfl, Nat.le_of_ble_eq_true rfl⟩ hK hT hS hA hP hD rfl rfl [0, 1] rfl (by decide) rfl hl.1 rfl (Nat.le_of_ble_eq_true rfl) dX9_firstShut_3) hP hD hS hA [0, 1] [] rfl rfl (by decide) (by decide) (fun r_1 w_2 H locs hw_3 hP hD hS => ?_)
  rcases hw_3 with ⟨hf_4, hf_5, rfl⟩ | ⟨hf_6, rfl, rfl⟩
  · have hP : va_P D vwCl [(y, .inr (9, [.int m_thrown, .int m_status, .ref y_lane, .ref y_many, .ref y_item, .ref y_city, .ref y_fresh, .int m_isThere, .ref y_tape, .int m_taped, .int m_latest, .int m_length, .int m_cursor, .int m_token, .int m_start, .int m_till, .int m_fault, .int m_faultAt, .int m_seen, .int m_mirrors, .ref y_cost, .ref y_away, .ref y_fee, .ref y_goesTo, .ref y_priceWas, .ref y_isKept, .ref y_kept, .ref y_trace, .int m_traced])), (y_city, .inl (cI, 192, .inl cy))] H := hP
    have hD : va_D A [(y, .inr (9, [.int m_thrown, .int m_status, .ref y_lane, .ref y_many, .ref y_item, .ref y_city, .ref y_fresh, .int m_isThere, .ref y_tape, .int m_taped, .int m_latest, .int m_length, .int m_cursor, .int m_token, .int m_start, .int m_till, .int m_fault, .int m_faultAt, .int m_seen, .int m_mirrors, .ref y_cost, .ref y_away, .ref y_fee, .ref y_goesTo, .ref y_priceWas, .ref y_isKept, .ref y_kept, .ref y_trace, .int m_traced])), (y_city, .inl (cI, 192, .inl cy))] := hD
    refine lv_istore_n (lv' := [(3, .int r_1), (0, .ref y), (1, .int k), (2, .int wy)]) S.1 S.2.1 dX9_firstShut_6 rfl hl (by decide) rfl (fun ls hl => ?_)
    refine lp_firstShut_x l D cI cZ cC cS sq y y_city k wy m_thrown m_status y_lane y_many y_item y_fresh m_isThere y_tape m_taped m_latest m_length m_cursor m_token m_start m_till m_fault m_faultAt m_seen m_mirrors y_cost y_away y_fee y_goesTo y_priceWas y_isKept y_kept y_trace m_traced cy gg hpd_cy hk hy hgy hgb X hK hT hA (fun at__7 hi_8 hi_9 hi_10 hi_11 hi_12 H locs ls hP hD hS hl => ?_) _ r_1 (by first | with_reducible assumption | assumption | omega | decide | (rw [show Int32.toInt 0 = 0 from rfl]; omega)) (by first | with_reducible assumption | (and_intros <;> first | with_reducible assumption | (intros; refine Int.le_antisymm ?_ ?_ <;> omega) | omega) | assumption | decide | (rw [show Int32.toInt 0 = 0 from rfl]; omega)) (by first | exact Or.inl (by decide) | exact nbY_K hgy hgb (by assumption)) (by first | exact fs_in hgy (by assumption) | (rw [show Int32.toInt (-1) = -1 from by decide]; exact fs_in hgy (by assumption))) (Nat.lt_succ_self _) H _ ls hP hD hS (lv_sub hl [0, 1, 2, 3] rfl)
    refine lv_iload_n S.1 S.2.1 dX9_firstShut_34 rfl (lv_at hl 0 rfl) ?_
    exact b_iret S.1 S.2.1 X.2.1 X.2.2.1 hP hD hS ⟨(by first | with_reducible assumption | (and_intros <;> first | with_reducible assumption | (intros; refine Int.le_antisymm ?_ ?_ <;> omega) | omega) | assumption | decide | (rw [show Int32.toInt 0 = 0 from rfl]; omega)), (fs_out hgy hgb hy (by assumption) (by assumption) (by assumption)), rfl⟩ dX9_firstShut_35
  · have hP : va_P D vwCl [(y, .inr (9, [.int m_thrown, .int m_status, .ref y_lane, .ref y_many, .ref y_item, .ref y_city, .ref y_fresh, .int m_isThere, .ref y_tape, .int m_taped, .int m_latest, .int m_length, .int m_cursor, .int m_token, .int m_start, .int m_till, .int m_fault, .int m_faultAt, .int m_seen, .int m_mirrors, .ref y_cost, .ref y_away, .ref y_fee, .ref y_goesTo, .ref y_priceWas, .ref y_isKept, .ref y_kept, .ref y_trace, .int m_traced])), (y_city, .inl (cI, 192, .inl cy))] H := hP
    have hD : va_D A [(y, .inr (9, [.int m_thrown, .int m_status, .ref y_lane, .ref y_many, .ref y_item, .ref y_city, .ref y_fresh, .int m_isThere, .ref y_tape, .int m_taped, .int m_latest, .int m_length, .int m_cursor, .int m_token, .int m_start, .int m_till, .int m_fault, .int m_faultAt, .int m_seen, .int m_mirrors, .ref y_cost, .ref y_away, .ref y_fee, .ref y_goesTo, .ref y_priceWas, .ref y_isKept, .ref y_kept, .ref y_trace, .int m_traced])), (y_city, .inl (cI, 192, .inl cy))] := hD
    refine lv_istore_n (lv' := [(3, .int (-1)), (0, .ref y), (1, .int k), (2, .int wy)]) S.1 S.2.1 dX9_firstShut_6 rfl hl (by decide) rfl (fun ls hl => ?_)
    refine lp_firstShut_x l D cI cZ cC cS sq y y_city k wy m_thrown m_status y_lane y_many y_item y_fresh m_isThere y_tape m_taped m_latest m_length m_cursor m_token m_start m_till m_fault m_faultAt m_seen m_mirrors y_cost y_away y_fee y_goesTo y_priceWas y_isKept y_kept y_trace m_traced cy gg hpd_cy hk hy hgy hgb X hK hT hA (fun at__13 hi_14 hi_15 hi_16 hi_17 hi_18 H locs ls hP hD hS hl => ?_) _ (-1) (by first | with_reducible assumption | assumption | omega | decide | (rw [show Int32.toInt 0 = 0 from rfl]; omega)) (by first | with_reducible assumption | (and_intros <;> first | with_reducible assumption | (intros; refine Int.le_antisymm ?_ ?_ <;> omega) | omega) | assumption | decide | (rw [show Int32.toInt 0 = 0 from rfl]; omega)) (by first | exact Or.inl (by decide) | exact nbY_K hgy hgb (by assumption)) (by first | exact fs_in hgy (by assumption) | (rw [show Int32.toInt (-1) = -1 from by decide]; exact fs_in hgy (by assumption))) (Nat.lt_succ_self _) H _ ls hP hD hS (lv_sub hl [0, 1, 2, 3] rfl)
    refine lv_iload_n S.1 S.2.1 dX9_firstShut_34 rfl (lv_at hl 0 rfl) ?_
    exact b_iret S.1 S.2.1 X.2.1 X.2.2.1 hP hD hS ⟨(by first | with_reducible assumption | (and_intros <;> first | with_reducible assumption | (intros; refine Int.le_antisymm ?_ ?_ <;> omega) | omega) | assumption | decide | (rw [show Int32.toInt 0 = 0 from rfl]; omega)), (fs_out hgy hgb hy (by assumption) (by assumption) (by assumption)), rfl⟩ dX9_firstShut_35
set_option maxHeartbeats 4000000 in
set_option maxRecDepth 100000 in
theorem s_X9_lookFrom_x (l : Launch) (D : va_G) (cI cZ cC cS : ClassId) (sq : Nat → Nat) (sz : Nat) (y : Nat) (y_city : Nat) (k : Int32) (wy : Int32) (m_thrown : Int32) (m_status : Int32) (y_lane : Nat) (y_many : Nat) (y_item : Nat) (y_fresh : Nat) (m_isThere : Int32) (y_tape : Nat) (m_taped : Int32) (m_latest : Int32) (m_length : Int32) (m_cursor : Int32) (m_token : Int32) (m_start : Int32) (m_till : Int32) (m_fault : Int32) (m_faultAt : Int32) (m_seen : Int32) (m_mirrors : Int32) (y_cost : Nat) (y_away : Nat) (y_fee : Nat) (y_goesTo : Nat) (y_priceWas : Nat) (y_isKept : Nat) (y_kept : Nat) (y_trace : Nat) (m_traced : Int32) (cy : Nat → Int32) (gg : Nat → Int) (hpd_cy : prd cyK 192 cy) (hk : 0 ≤ k.toInt ∧ k.toInt < 80) (hy : 0 ≤ wy.toInt ∧ wy.toInt < 8) (hgy : GY gg cy) (hgb : gB gg) : mV l yX9_lookFrom wsX9_lookFrom 4 160 0 0 D (tyW cI cZ cC cS) sq [(y, .inr (9, [.int m_thrown, .int m_status, .ref y_lane, .ref y_many, .ref y_item, .ref y_city, .ref y_fresh, .int m_isThere, .ref y_tape, .int m_taped, .int m_latest, .int m_length, .int m_cursor, .int m_token, .int m_start, .int m_till, .int m_fault, .int m_faultAt, .int m_seen, .int m_mirrors, .ref y_cost, .ref y_away, .ref y_fee, .ref y_goesTo, .ref y_priceWas, .ref y_isKept, .ref y_kept, .ref y_trace, .int m_traced])), (y_city, .inl (cI, 192, .inl cy))] sz [.ref y, .int k, .int wy] (fun w => (∃ (m_seen2 : Int32), ∃ (m_mirrors2 : Int32), (-1 ≤ m_seen2.toInt ∧ m_seen2.toInt < 80 ∧ 0 ≤ m_mirrors2.toInt ∧ m_mirrors2.toInt ≤ 2) ∧ (m_seen2.toInt = lkS gg k.toInt wy.toInt) ∧ (m_mirrors2.toInt = lkM gg k.toInt wy.toInt) ∧ w = [(y, .inr (9, [.int m_thrown, .int m_status, .ref y_lane, .ref y_many, .ref y_item, .ref y_city, .ref y_fresh, .int m_isThere, .ref y_tape, .int m_taped, .int m_latest, .int m_length, .int m_cursor, .int m_token, .int m_start, .int m_till, .int m_fault, .int m_faultAt, .int m_seen2, .int m_mirrors2, .ref y_cost, .ref y_away, .ref y_fee, .ref y_goesTo, .ref y_priceWas, .ref y_isKept, .ref y_kept, .ref y_trace, .int m_traced])), (y_city, .inl (cI, 192, .inl cy))])) := by
  refine b_metV (cc := cX9_lookFrom) (maxL := 3) (ret := none) (by decide) rfl (Nat.le_of_ble_eq_true rfl) ?_
  intro p e s m below meth c ls A H X hsz hP hK hT hD hA hS hl
  have S : CallFix p m c cX9_lookFrom 3 s ([.ref y, .int k, .int wy] : List Value).toArray wsX9_lookFrom RX9 := X.1
  have hl : lv_has ls 3 [(0, .ref y), (1, .int k), (2, .int wy)] := hl
  have iX9 := jX9_lookFrom_X9
  refine lv_aload_n S.1 S.2.1 dX9_lookFrom_0 rfl (lv_at hl 0 rfl) ?_
  refine lv_iconst (v := (0)) S.1 S.2.1 dX9_lookFrom_1 (by decide) ?_
  refine b_put (v := .int 0) S iX9 tyX9 tyX9_ok nmX9 hK hP hD hS 0 rfl rfl 19 (by decide) (by decide +kernel) rfl rfl rfl (Nat.le_of_ble_eq_true rfl) dX9_lookFrom_2 (fun H locs hP hD hS => ?_)
  have hP : va_P D vwCl [(y, .inr (9, [.int m_thrown, .int m_status, .ref y_lane, .ref y_many, .ref y_item, .ref y_city, .ref y_fresh, .int m_isThere, .ref y_tape, .int m_taped, .int m_latest, .int m_length, .int m_cursor, .int m_token, .int m_start, .int m_till, .int m_fault, .int m_faultAt, .int m_seen, .int 0, .ref y_cost, .ref y_away, .ref y_fee, .ref y_goesTo, .ref y_priceWas, .ref y_isKept, .ref y_kept, .ref y_trace, .int m_traced])), (y_city, .inl (cI, 192, .inl cy))] H := hP
  have hD : va_D A [(y, .inr (9, [.int m_thrown, .int m_status, .ref y_lane, .ref y_many, .ref y_item, .ref y_city, .ref y_fresh, .int m_isThere, .ref y_tape, .int m_taped, .int m_latest, .int m_length, .int m_cursor, .int m_token, .int m_start, .int m_till, .int m_fault, .int m_faultAt, .int m_seen, .int 0, .ref y_cost, .ref y_away, .ref y_fee, .ref y_goesTo, .ref y_priceWas, .ref y_isKept, .ref y_kept, .ref y_trace, .int m_traced])), (y_city, .inl (cI, 192, .inl cy))] := hD
  refine lv_aload_n S.1 S.2.1 dX9_lookFrom_5 rfl (lv_at hl 0 rfl) ?_
  refine lv_aload_n S.1 S.2.1 dX9_lookFrom_6 rfl (lv_at hl 0 rfl) ?_
  refine lv_iload_n S.1 S.2.1 dX9_lookFrom_7 rfl (lv_at hl 1 rfl) ?_
  refine lv_iload_n S.1 S.2.1 dX9_lookFrom_8 rfl (lv_at hl 2 rfl) ?_
  refine b_ai (wr := []) (b_runV (q0 := 0) (ci := 9) (As := [.int k, .int wy]) (s_X9_firstShut_x l D cI cZ cC cS sq H.size y y_city k wy m_thrown m_status y_lane y_many y_item y_fresh m_isThere y_tape m_taped m_latest m_length m_cursor m_token m_start m_till m_fault m_faultAt m_seen (0) y_cost y_away y_fee y_goesTo y_priceWas y_isKept y_kept y_trace m_traced cy _ (by first | with_reducible assumption | assumption | omega | decide | (rw [show Int32.toInt 0 = 0 from rfl]; omega)) (by first | with_reducible assumption | (and_intros <;> first | with_reducible assumption | (intros; refine Int.le_antisymm ?_ ?_ <;> omega) | omega) | assumption | decide | (rw [show Int32.toInt 0 = 0 from rfl]; omega)) (by first | with_reducible assumption | (and_intros <;> first | with_reducible assumption | (intros; refine Int.le_antisymm ?_ ?_ <;> omega) | omega) | assumption | decide | (rw [show Int32.toInt 0 = 0 from rfl]; omega)) (by first | with_reducible assumption | assumption | omega | decide | (rw [show Int32.toInt 0 = 0 from rfl]; omega)) (by first | with_reducible assumption | assumption | omega | decide | (rw [show Int32.toInt 0 = 0 from rfl]; omega))) S gX9_lookFrom_X9_firstShut rfl hdV_X9_firstShut ⟨Nat.le_of_ble_eq_true rfl, Nat.le_of_ble_eq_true rfl⟩ ⟨Nat.le_of_ble_eq_true rfl, Nat.le_of_ble_eq_true rfl⟩ hK hT hS hA hP hD rfl rfl [0, 1] rfl (by decide) rfl hl.1 rfl (Nat.le_of_ble_eq_true rfl) dX9_lookFrom_9) hP hD hS hA [0, 1] [] rfl rfl (by decide) (by decide) (fun r_1 w_2 H locs hw_3 hP hD hS => ?_)
  obtain ⟨hf_4, hf_5, rfl⟩ := hw_3
  have hP : va_P D vwCl [(y, .inr (9, [.int m_thrown, .int m_status, .ref y_lane, .ref y_many, .ref y_item, .ref y_city, .ref y_fresh, .int m_isThere, .ref y_tape, .int m_taped, .int m_latest, .int m_length, .int m_cursor, .int m_token, .int m_start, .int m_till, .int m_fault, .int m_faultAt, .int m_seen, .int 0, .ref y_cost, .ref y_away, .ref y_fee, .ref y_goesTo, .ref y_priceWas, .ref y_isKept, .ref y_kept, .ref y_trace, .int m_traced])), (y_city, .inl (cI, 192, .inl cy))] H := hP
  have hD : va_D A [(y, .inr (9, [.int m_thrown, .int m_status, .ref y_lane, .ref y_many, .ref y_item, .ref y_city, .ref y_fresh, .int m_isThere, .ref y_tape, .int m_taped, .int m_latest, .int m_length, .int m_cursor, .int m_token, .int m_start, .int m_till, .int m_fault, .int m_faultAt, .int m_seen, .int 0, .ref y_cost, .ref y_away, .ref y_fee, .ref y_goesTo, .ref y_priceWas, .ref y_isKept, .ref y_kept, .ref y_trace, .int m_traced])), (y_city, .inl (cI, 192, .inl cy))] := hD
  obtain ⟨sv, hsv⟩ : ∃ z : Int, z = (r_1).toInt := ⟨_, rfl⟩
  have k1_ : sv = s1T gg k.toInt wy.toInt := hsv.trans (by assumption)
  have g1_ := GYs (a := sv) hgy hgb hy k1_
  refine b_put (v := .int r_1) S iX9 tyX9 tyX9_ok nmX9 hK hP hD hS 0 rfl rfl 18 (by decide) (by decide +kernel) rfl rfl rfl (Nat.le_of_ble_eq_true rfl) dX9_lookFrom_12 (fun H locs hP hD hS => ?_)
  have hP : va_P D vwCl [(y, .inr (9, [.int m_thrown, .int m_status, .ref y_lane, .ref y_many, .ref y_item, .ref y_city, .ref y_fresh, .int m_isThere, .ref y_tape, .int m_taped, .int m_latest, .int m_length, .int m_cursor, .int m_token, .int m_start, .int m_till, .int m_fault, .int m_faultAt, .int r_1, .int 0, .ref y_cost, .ref y_away, .ref y_fee, .ref y_goesTo, .ref y_priceWas, .ref y_isKept, .ref y_kept, .ref y_trace, .int m_traced])), (y_city, .inl (cI, 192, .inl cy))] H := hP
  have hD : va_D A [(y, .inr (9, [.int m_thrown, .int m_status, .ref y_lane, .ref y_many, .ref y_item, .ref y_city, .ref y_fresh, .int m_isThere, .ref y_tape, .int m_taped, .int m_latest, .int m_length, .int m_cursor, .int m_token, .int m_start, .int m_till, .int m_fault, .int m_faultAt, .int r_1, .int 0, .ref y_cost, .ref y_away, .ref y_fee, .ref y_goesTo, .ref y_priceWas, .ref y_isKept, .ref y_kept, .ref y_trace, .int m_traced])), (y_city, .inl (cI, 192, .inl cy))] := hD
  refine lv_aload_n S.1 S.2.1 dX9_lookFrom_15 rfl (lv_at hl 0 rfl) ?_
  refine b_get (v := .int r_1) S iX9 hK hP 0 rfl rfl 18 (by decide) (by decide +kernel) rfl dX9_lookFrom_16 ?_
  refine lv_if_lt (tgt := 89) S.1 S.2.1 dX9_lookFrom_19 (by decide) (fun c_6 => ?_) (fun c_6 => ?_)
  · rw [lt2 (a := r_1) (b := 0) (A := r_1.toInt) (B := 0) rfl rfl] at c_6
    have lq0 : Int32.toInt (0) = 0 := by decide
    exact b_vret S.1 S.2.1 X.2.1 X.2.2.1 hP hD hS ⟨r_1, (0), (by first | with_reducible assumption | (and_intros <;> first | with_reducible assumption | (intros; refine Int.le_antisymm ?_ ?_ <;> omega) | omega) | assumption | decide | (rw [show Int32.toInt 0 = 0 from rfl]; omega)), (by first | (have q := lk_0 k1_ (by first | (refine Int.le_antisymm ?_ ?_ <;> omega) | omega); omega) | (have q := lk_1 k1_ (by first | (refine Int.le_antisymm ?_ ?_ <;> omega) | omega) k2_ (by first | (refine Int.le_antisymm ?_ ?_ <;> omega) | omega); omega) | (have q := lk_2 k1_ (by first | (refine Int.le_antisymm ?_ ?_ <;> omega) | omega) k2_ (by first | (refine Int.le_antisymm ?_ ?_ <;> omega) | omega); omega)), (by first | (have q := lk_0 k1_ (by first | (refine Int.le_antisymm ?_ ?_ <;> omega) | omega); omega) | (have q := lk_1 k1_ (by first | (refine Int.le_antisymm ?_ ?_ <;> omega) | omega) k2_ (by first | (refine Int.le_antisymm ?_ ?_ <;> omega) | omega); omega) | (have q := lk_2 k1_ (by first | (refine Int.le_antisymm ?_ ?_ <;> omega) | omega) k2_ (by first | (refine Int.le_antisymm ?_ ?_ <;> omega) | omega); omega)), rfl⟩ dX9_lookFrom_89
  · rw [lt2 (a := r_1) (b := 0) (A := r_1.toInt) (B := 0) rfl rfl] at c_6
    refine lv_aload_n S.1 S.2.1 dX9_lookFrom_22 rfl (lv_at hl 0 rfl) ?_
    refine b_get (v := .ref y_city) S iX9 hK hP 0 rfl rfl 5 (by decide) (by decide +kernel) rfl dX9_lookFrom_23 ?_
    refine lv_iconst (v := (4)) S.1 S.2.1 dX9_lookFrom_26 (by decide) ?_
    refine lv_aload_n S.1 S.2.1 dX9_lookFrom_27 rfl (lv_at hl 0 rfl) ?_
    refine b_get (v := .int r_1) S iX9 hK hP 0 rfl rfl 18 (by decide) (by decide +kernel) rfl dX9_lookFrom_28 ?_
    refine lv_iadd S.1 S.2.1 dX9_lookFrom_31 ?_
    refine lv_topi (fun x_7 ex_7 => ?_)
    have tx_7 : x_7.toInt = 4 + (r_1.toInt) := addI (A := 4) (B := r_1.toInt) ex_7 rfl rfl (by  omega) (by  omega)
    have hin_8 : vp_in x_7 192 := (in_of (n := 192) (by  omega) (by  omega))
    refine va_iald S.1 S.2.1 hK.1 hP 1 0 rfl rfl hin_8 dX9_lookFrom_32 ?_
    refine lv_topi (fun x_9 ex_9 => ?_)
    have tx_9 := cyg_A (x := x_9) (show prd cyK 192 cy by assumption) (by first | (refine Int.le_antisymm ?_ ?_ <;> omega) | omega) ex_9
    have cex_9 : x_9.toInt = (cy (4 + sv.toNat)).toInt := by rw [ex_9]; exact congrArg (fun z => (cy z).toInt) (by show (x_7).toInt.toNat = _; omega)
    refine lv_iconst (v := (-1)) S.1 S.2.1 dX9_lookFrom_33 (by decide) ?_
    refine lv_icmp_ne (tgt := 89) S.1 S.2.1 dX9_lookFrom_34 (by decide) (fun c_10 => ?_) (fun c_10 => ?_)
    · rw [eq2 (a := x_9) (b := (-1)) (A := x_9.toInt) (B := -1) rfl rfl] at c_10
      have lq0 : Int32.toInt (0) = 0 := by decide
      exact b_vret S.1 S.2.1 X.2.1 X.2.2.1 hP hD hS ⟨r_1, (0), (by first | with_reducible assumption | (and_intros <;> first | with_reducible assumption | (intros; refine Int.le_antisymm ?_ ?_ <;> omega) | omega) | assumption | decide | (rw [show Int32.toInt 0 = 0 from rfl]; omega)), (by first | (have q := lk_0 k1_ (by first | (refine Int.le_antisymm ?_ ?_ <;> omega) | omega); omega) | (have q := lk_1 k1_ (by first | (refine Int.le_antisymm ?_ ?_ <;> omega) | omega) k2_ (by first | (refine Int.le_antisymm ?_ ?_ <;> omega) | omega); omega) | (have q := lk_2 k1_ (by first | (refine Int.le_antisymm ?_ ?_ <;> omega) | omega) k2_ (by first | (refine Int.le_antisymm ?_ ?_ <;> omega) | omega); omega)), (by first | (have q := lk_0 k1_ (by first | (refine Int.le_antisymm ?_ ?_ <;> omega) | omega); omega) | (have q := lk_1 k1_ (by first | (refine Int.le_antisymm ?_ ?_ <;> omega) | omega) k2_ (by first | (refine Int.le_antisymm ?_ ?_ <;> omega) | omega); omega) | (have q := lk_2 k1_ (by first | (refine Int.le_antisymm ?_ ?_ <;> omega) | omega) k2_ (by first | (refine Int.le_antisymm ?_ ?_ <;> omega) | omega); omega)), rfl⟩ dX9_lookFrom_89
    · rw [eq2 (a := x_9) (b := (-1)) (A := x_9.toInt) (B := -1) rfl rfl] at c_10
      refine lv_aload_n S.1 S.2.1 dX9_lookFrom_37 rfl (lv_at hl 0 rfl) ?_
      refine lv_iconst (v := (1)) S.1 S.2.1 dX9_lookFrom_38 (by decide) ?_
      refine b_put (v := .int 1) S iX9 tyX9 tyX9_ok nmX9 hK hP hD hS 0 rfl rfl 19 (by decide) (by decide +kernel) rfl rfl rfl (Nat.le_of_ble_eq_true rfl) dX9_lookFrom_39 (fun H locs hP hD hS => ?_)
      have hP : va_P D vwCl [(y, .inr (9, [.int m_thrown, .int m_status, .ref y_lane, .ref y_many, .ref y_item, .ref y_city, .ref y_fresh, .int m_isThere, .ref y_tape, .int m_taped, .int m_latest, .int m_length, .int m_cursor, .int m_token, .int m_start, .int m_till, .int m_fault, .int m_faultAt, .int r_1, .int 1, .ref y_cost, .ref y_away, .ref y_fee, .ref y_goesTo, .ref y_priceWas, .ref y_isKept, .ref y_kept, .ref y_trace, .int m_traced])), (y_city, .inl (cI, 192, .inl cy))] H := hP
      have hD : va_D A [(y, .inr (9, [.int m_thrown, .int m_status, .ref y_lane, .ref y_many, .ref y_item, .ref y_city, .ref y_fresh, .int m_isThere, .ref y_tape, .int m_taped, .int m_latest, .int m_length, .int m_cursor, .int m_token, .int m_start, .int m_till, .int m_fault, .int m_faultAt, .int r_1, .int 1, .ref y_cost, .ref y_away, .ref y_fee, .ref y_goesTo, .ref y_priceWas, .ref y_isKept, .ref y_kept, .ref y_trace, .int m_traced])), (y_city, .inl (cI, 192, .inl cy))] := hD
      refine lv_aload_n S.1 S.2.1 dX9_lookFrom_42 rfl (lv_at hl 0 rfl) ?_
      refine lv_aload_n S.1 S.2.1 dX9_lookFrom_43 rfl (lv_at hl 0 rfl) ?_
      refine lv_iload_n S.1 S.2.1 dX9_lookFrom_44 rfl (lv_at hl 1 rfl) ?_
      refine lv_iload_n S.1 S.2.1 dX9_lookFrom_45 rfl (lv_at hl 2 rfl) ?_
      refine lv_iconst (v := (4)) S.1 S.2.1 dX9_lookFrom_46 (by decide) ?_
      refine lv_iadd S.1 S.2.1 dX9_lookFrom_47 ?_
      refine lv_topi (fun x_11 ex_11 => ?_)
      have tx_11 : x_11.toInt = wy.toInt + (4) := addI (A := wy.toInt) (B := 4) ex_11 rfl rfl (by  omega) (by  omega)
      refine lv_bipush (v := (8)) S.1 S.2.1 dX9_lookFrom_48 (by decide) ?_
      refine lv_irem S.1 S.2.1 dX9_lookFrom_50 (by decide) ?_
      refine lv_topi (fun x_12 ex_12 => ?_)
      have tx_12 : x_12.toInt = x_11.toInt % 8 := remI (A := x_11.toInt) (B := 8) ex_12 rfl rfl (by  omega) (by decide)
      refine b_ai (wr := []) (b_runV (q0 := 0) (ci := 9) (As := [.int k, .int x_12]) (s_X9_firstShut_x l D cI cZ cC cS sq H.size y y_city k x_12 m_thrown m_status y_lane y_many y_item y_fresh m_isThere y_tape m_taped m_latest m_length m_cursor m_token m_start m_till m_fault m_faultAt r_1 (1) y_cost y_away y_fee y_goesTo y_priceWas y_isKept y_kept y_trace m_traced cy _ (by first | with_reducible assumption | assumption | omega | decide | (rw [show Int32.toInt 0 = 0 from rfl]; omega)) (by first | with_reducible assumption | (and_intros <;> first | with_reducible assumption | (intros; refine Int.le_antisymm ?_ ?_ <;> omega) | omega) | assumption | decide | (rw [show Int32.toInt 0 = 0 from rfl]; omega)) (by first | with_reducible assumption | (and_intros <;> first | with_reducible assumption | (intros; refine Int.le_antisymm ?_ ?_ <;> omega) | omega) | assumption | decide | (rw [show Int32.toInt 0 = 0 from rfl]; omega)) (by first | with_reducible assumption | assumption | omega | decide | (rw [show Int32.toInt 0 = 0 from rfl]; omega)) (by first | with_reducible assumption | assumption | omega | decide | (rw [show Int32.toInt 0 = 0 from rfl]; omega))) S gX9_lookFrom_X9_firstShut rfl hdV_X9_firstShut ⟨Nat.le_of_ble_eq_true rfl, Nat.le_of_ble_eq_true rfl⟩ ⟨Nat.le_of_ble_eq_true rfl, Nat.le_of_ble_eq_true rfl⟩ hK hT hS hA hP hD rfl rfl [0, 1] rfl (by decide) rfl hl.1 rfl (Nat.le_of_ble_eq_true rfl) dX9_lookFrom_51) hP hD hS hA [0, 1] [] rfl rfl (by decide) (by decide) (fun r_13 w_14 H locs hw_15 hP hD hS => ?_)
      obtain ⟨hf_16, hf_17, rfl⟩ := hw_15
      have hP : va_P D vwCl [(y, .inr (9, [.int m_thrown, .int m_status, .ref y_lane, .ref y_many, .ref y_item, .ref y_city, .ref y_fresh, .int m_isThere, .ref y_tape, .int m_taped, .int m_latest, .int m_length, .int m_cursor, .int m_token, .int m_start, .int m_till, .int m_fault, .int m_faultAt, .int r_1, .int 1, .ref y_cost, .ref y_away, .ref y_fee, .ref y_goesTo, .ref y_priceWas, .ref y_isKept, .ref y_kept, .ref y_trace, .int m_traced])), (y_city, .inl (cI, 192, .inl cy))] H := hP
      have hD : va_D A [(y, .inr (9, [.int m_thrown, .int m_status, .ref y_lane, .ref y_many, .ref y_item, .ref y_city, .ref y_fresh, .int m_isThere, .ref y_tape, .int m_taped, .int m_latest, .int m_length, .int m_cursor, .int m_token, .int m_start, .int m_till, .int m_fault, .int m_faultAt, .int r_1, .int 1, .ref y_cost, .ref y_away, .ref y_fee, .ref y_goesTo, .ref y_priceWas, .ref y_isKept, .ref y_kept, .ref y_trace, .int m_traced])), (y_city, .inl (cI, 192, .inl cy))] := hD
      obtain ⟨sw, hsw_⟩ : ∃ z : Int, z = (r_13).toInt := ⟨_, rfl⟩
      have k2_ : sw = s1T gg k.toInt ((wy.toInt + 4) % 8) := by have z := (by assumption : (r_13).toInt = s1T gg k.toInt _); rw [hsw_, z]; exact congrArg (s1T gg k.toInt) (by first | (refine Int.le_antisymm ?_ ?_ <;> omega) | omega)
      have g2_ := GYs (a := sw) hgy hgb (by first | (refine Int.le_antisymm ?_ ?_ <;> omega) | omega) k2_
      refine b_put (v := .int r_13) S iX9 tyX9 tyX9_ok nmX9 hK hP hD hS 0 rfl rfl 18 (by decide) (by decide +kernel) rfl rfl rfl (Nat.le_of_ble_eq_true rfl) dX9_lookFrom_54 (fun H locs hP hD hS => ?_)
      have hP : va_P D vwCl [(y, .inr (9, [.int m_thrown, .int m_status, .ref y_lane, .ref y_many, .ref y_item, .ref y_city, .ref y_fresh, .int m_isThere, .ref y_tape, .int m_taped, .int m_latest, .int m_length, .int m_cursor, .int m_token, .int m_start, .int m_till, .int m_fault, .int m_faultAt, .int r_13, .int 1, .ref y_cost, .ref y_away, .ref y_fee, .ref y_goesTo, .ref y_priceWas, .ref y_isKept, .ref y_kept, .ref y_trace, .int m_traced])), (y_city, .inl (cI, 192, .inl cy))] H := hP
      have hD : va_D A [(y, .inr (9, [.int m_thrown, .int m_status, .ref y_lane, .ref y_many, .ref y_item, .ref y_city, .ref y_fresh, .int m_isThere, .ref y_tape, .int m_taped, .int m_latest, .int m_length, .int m_cursor, .int m_token, .int m_start, .int m_till, .int m_fault, .int m_faultAt, .int r_13, .int 1, .ref y_cost, .ref y_away, .ref y_fee, .ref y_goesTo, .ref y_priceWas, .ref y_isKept, .ref y_kept, .ref y_trace, .int m_traced])), (y_city, .inl (cI, 192, .inl cy))] := hD
      refine lv_aload_n S.1 S.2.1 dX9_lookFrom_57 rfl (lv_at hl 0 rfl) ?_
      refine b_get (v := .int r_13) S iX9 hK hP 0 rfl rfl 18 (by decide) (by decide +kernel) rfl dX9_lookFrom_58 ?_
      refine lv_if_lt (tgt := 89) S.1 S.2.1 dX9_lookFrom_61 (by decide) (fun c_18 => ?_) (fun c_18 => ?_)
      · rw [lt2 (a := r_13) (b := 0) (A := r_13.toInt) (B := 0) rfl rfl] at c_18
        have lq1 : Int32.toInt (1) = 1 := by decide
        exact b_vret S.1 S.2.1 X.2.1 X.2.2.1 hP hD hS ⟨r_13, (1), (by first | with_reducible assumption | (and_intros <;> first | with_reducible assumption | (intros; refine Int.le_antisymm ?_ ?_ <;> omega) | omega) | assumption | decide | (rw [show Int32.toInt 0 = 0 from rfl]; omega)), (by first | (have q := lk_0 k1_ (by first | (refine Int.le_antisymm ?_ ?_ <;> omega) | omega); omega) | (have q := lk_1 k1_ (by first | (refine Int.le_antisymm ?_ ?_ <;> omega) | omega) k2_ (by first | (refine Int.le_antisymm ?_ ?_ <;> omega) | omega); omega) | (have q := lk_2 k1_ (by first | (refine Int.le_antisymm ?_ ?_ <;> omega) | omega) k2_ (by first | (refine Int.le_antisymm ?_ ?_ <;> omega) | omega); omega)), (by first | (have q := lk_0 k1_ (by first | (refine Int.le_antisymm ?_ ?_ <;> omega) | omega); omega) | (have q := lk_1 k1_ (by first | (refine Int.le_antisymm ?_ ?_ <;> omega) | omega) k2_ (by first | (refine Int.le_antisymm ?_ ?_ <;> omega) | omega); omega) | (have q := lk_2 k1_ (by first | (refine Int.le_antisymm ?_ ?_ <;> omega) | omega) k2_ (by first | (refine Int.le_antisymm ?_ ?_ <;> omega) | omega); omega)), rfl⟩ dX9_lookFrom_89
      · rw [lt2 (a := r_13) (b := 0) (A := r_13.toInt) (B := 0) rfl rfl] at c_18
        refine lv_aload_n S.1 S.2.1 dX9_lookFrom_64 rfl (lv_at hl 0 rfl) ?_
        refine b_get (v := .ref y_city) S iX9 hK hP 0 rfl rfl 5 (by decide) (by decide +kernel) rfl dX9_lookFrom_65 ?_
        refine lv_iconst (v := (4)) S.1 S.2.1 dX9_lookFrom_68 (by decide) ?_
        refine lv_aload_n S.1 S.2.1 dX9_lookFrom_69 rfl (lv_at hl 0 rfl) ?_
        refine b_get (v := .int r_13) S iX9 hK hP 0 rfl rfl 18 (by decide) (by decide +kernel) rfl dX9_lookFrom_70 ?_
        refine lv_iadd S.1 S.2.1 dX9_lookFrom_73 ?_
        refine lv_topi (fun x_19 ex_19 => ?_)
        have tx_19 : x_19.toInt = 4 + (r_13.toInt) := addI (A := 4) (B := r_13.toInt) ex_19 rfl rfl (by  omega) (by  omega)
        have hin_20 : vp_in x_19 192 := (in_of (n := 192) (by  omega) (by  omega))
        refine va_iald S.1 S.2.1 hK.1 hP 1 0 rfl rfl hin_20 dX9_lookFrom_74 ?_
        refine lv_topi (fun x_21 ex_21 => ?_)
        have tx_21 := cyg_A (x := x_21) (show prd cyK 192 cy by assumption) (by first | (refine Int.le_antisymm ?_ ?_ <;> omega) | omega) ex_21
        have cex_21 : x_21.toInt = (cy (4 + sw.toNat)).toInt := by rw [ex_21]; exact congrArg (fun z => (cy z).toInt) (by show (x_19).toInt.toNat = _; omega)
        refine lv_iconst (v := (-1)) S.1 S.2.1 dX9_lookFrom_75 (by decide) ?_
        refine lv_icmp_ne (tgt := 89) S.1 S.2.1 dX9_lookFrom_76 (by decide) (fun c_22 => ?_) (fun c_22 => ?_)
        · rw [eq2 (a := x_21) (b := (-1)) (A := x_21.toInt) (B := -1) rfl rfl] at c_22
          have lq1 : Int32.toInt (1) = 1 := by decide
          exact b_vret S.1 S.2.1 X.2.1 X.2.2.1 hP hD hS ⟨r_13, (1), (by first | with_reducible assumption | (and_intros <;> first | with_reducible assumption | (intros; refine Int.le_antisymm ?_ ?_ <;> omega) | omega) | assumption | decide | (rw [show Int32.toInt 0 = 0 from rfl]; omega)), (by first | (have q := lk_0 k1_ (by first | (refine Int.le_antisymm ?_ ?_ <;> omega) | omega); omega) | (have q := lk_1 k1_ (by first | (refine Int.le_antisymm ?_ ?_ <;> omega) | omega) k2_ (by first | (refine Int.le_antisymm ?_ ?_ <;> omega) | omega); omega) | (have q := lk_2 k1_ (by first | (refine Int.le_antisymm ?_ ?_ <;> omega) | omega) k2_ (by first | (refine Int.le_antisymm ?_ ?_ <;> omega) | omega); omega)), (by first | (have q := lk_0 k1_ (by first | (refine Int.le_antisymm ?_ ?_ <;> omega) | omega); omega) | (have q := lk_1 k1_ (by first | (refine Int.le_antisymm ?_ ?_ <;> omega) | omega) k2_ (by first | (refine Int.le_antisymm ?_ ?_ <;> omega) | omega); omega) | (have q := lk_2 k1_ (by first | (refine Int.le_antisymm ?_ ?_ <;> omega) | omega) k2_ (by first | (refine Int.le_antisymm ?_ ?_ <;> omega) | omega); omega)), rfl⟩ dX9_lookFrom_89
        · rw [eq2 (a := x_21) (b := (-1)) (A := x_21.toInt) (B := -1) rfl rfl] at c_22
          refine lv_aload_n S.1 S.2.1 dX9_lookFrom_79 rfl (lv_at hl 0 rfl) ?_
          refine lv_iconst (v := (2)) S.1 S.2.1 dX9_lookFrom_80 (by decide) ?_
          refine b_put (v := .int 2) S iX9 tyX9 tyX9_ok nmX9 hK hP hD hS 0 rfl rfl 19 (by decide) (by decide +kernel) rfl rfl rfl (Nat.le_of_ble_eq_true rfl) dX9_lookFrom_81 (fun H locs hP hD hS => ?_)
          have hP : va_P D vwCl [(y, .inr (9, [.int m_thrown, .int m_status, .ref y_lane, .ref y_many, .ref y_item, .ref y_city, .ref y_fresh, .int m_isThere, .ref y_tape, .int m_taped, .int m_latest, .int m_length, .int m_cursor, .int m_token, .int m_start, .int m_till, .int m_fault, .int m_faultAt, .int r_13, .int 2, .ref y_cost, .ref y_away, .ref y_fee, .ref y_goesTo, .ref y_priceWas, .ref y_isKept, .ref y_kept, .ref y_trace, .int m_traced])), (y_city, .inl (cI, 192, .inl cy))] H := hP
          have hD : va_D A [(y, .inr (9, [.int m_thrown, .int m_status, .ref y_lane, .ref y_many, .ref y_item, .ref y_city, .ref y_fresh, .int m_isThere, .ref y_tape, .int m_taped, .int m_latest, .int m_length, .int m_cursor, .int m_token, .int m_start, .int m_till, .int m_fault, .int m_faultAt, .int r_13, .int 2, .ref y_cost, .ref y_away, .ref y_fee, .ref y_goesTo, .ref y_priceWas, .ref y_isKept, .ref y_kept, .ref y_trace, .int m_traced])), (y_city, .inl (cI, 192, .inl cy))] := hD
          refine lv_aload_n S.1 S.2.1 dX9_lookFrom_84 rfl (lv_at hl 0 rfl) ?_
          refine lv_iconst (v := (-1)) S.1 S.2.1 dX9_lookFrom_85 (by decide) ?_
          refine b_put (v := .int (-1)) S iX9 tyX9 tyX9_ok nmX9 hK hP hD hS 0 rfl rfl 18 (by decide) (by decide +kernel) rfl rfl rfl (Nat.le_of_ble_eq_true rfl) dX9_lookFrom_86 (fun H locs hP hD hS => ?_)
          have hP : va_P D vwCl [(y, .inr (9, [.int m_thrown, .int m_status, .ref y_lane, .ref y_many, .ref y_item, .ref y_city, .ref y_fresh, .int m_isThere, .ref y_tape, .int m_taped, .int m_latest, .int m_length, .int m_cursor, .int m_token, .int m_start, .int m_till, .int m_fault, .int m_faultAt, .int (-1), .int 2, .ref y_cost, .ref y_away, .ref y_fee, .ref y_goesTo, .ref y_priceWas, .ref y_isKept, .ref y_kept, .ref y_trace, .int m_traced])), (y_city, .inl (cI, 192, .inl cy))] H := hP
          have hD : va_D A [(y, .inr (9, [.int m_thrown, .int m_status, .ref y_lane, .ref y_many, .ref y_item, .ref y_city, .ref y_fresh, .int m_isThere, .ref y_tape, .int m_taped, .int m_latest, .int m_length, .int m_cursor, .int m_token, .int m_start, .int m_till, .int m_fault, .int m_faultAt, .int (-1), .int 2, .ref y_cost, .ref y_away, .ref y_fee, .ref y_goesTo, .ref y_priceWas, .ref y_isKept, .ref y_kept, .ref y_trace, .int m_traced])), (y_city, .inl (cI, 192, .inl cy))] := hD
          have lqm1 : Int32.toInt (-1) = -1 := by decide
          have lq2 : Int32.toInt (2) = 2 := by decide
          exact b_vret S.1 S.2.1 X.2.1 X.2.2.1 hP hD hS ⟨(-1), (2), (by first | with_reducible assumption | (and_intros <;> first | with_reducible assumption | (intros; refine Int.le_antisymm ?_ ?_ <;> omega) | omega) | assumption | decide | (rw [show Int32.toInt 0 = 0 from rfl]; omega)), (by first | (have q := lk_0 k1_ (by first | (refine Int.le_antisymm ?_ ?_ <;> omega) | omega); omega) | (have q := lk_1 k1_ (by first | (refine Int.le_antisymm ?_ ?_ <;> omega) | omega) k2_ (by first | (refine Int.le_antisymm ?_ ?_ <;> omega) | omega); omega) | (have q := lk_2 k1_ (by first | (refine Int.le_antisymm ?_ ?_ <;> omega) | omega) k2_ (by first | (refine Int.le_antisymm ?_ ?_ <;> omega) | omega); omega)), (by first | (have q := lk_0 k1_ (by first | (refine Int.le_antisymm ?_ ?_ <;> omega) | omega); omega) | (have q := lk_1 k1_ (by first | (refine Int.le_antisymm ?_ ?_ <;> omega) | omega) k2_ (by first | (refine Int.le_antisymm ?_ ?_ <;> omega) | omega); omega) | (have q := lk_2 k1_ (by first | (refine Int.le_antisymm ?_ ?_ <;> omega) | omega) k2_ (by first | (refine Int.le_antisymm ?_ ?_ <;> omega) | omega); omega)), rfl⟩ dX9_lookFrom_89
set_option maxHeartbeats 4000000 in
set_option maxRecDepth 100000 in
theorem s_X9_ownerSeen_x (l : Launch) (D : va_G) (cI cZ cC cS : ClassId) (sq : Nat → Nat) (sz : Nat) (y : Nat) (y_city : Nat) (m_thrown : Int32) (m_status : Int32) (y_lane : Nat) (y_many : Nat) (y_item : Nat) (y_fresh : Nat) (m_isThere : Int32) (y_tape : Nat) (m_taped : Int32) (m_latest : Int32) (m_length : Int32) (m_cursor : Int32) (m_token : Int32) (m_start : Int32) (m_till : Int32) (m_fault : Int32) (m_faultAt : Int32) (m_seen : Int32) (m_mirrors : Int32) (y_cost : Nat) (y_away : Nat) (y_fee : Nat) (y_goesTo : Nat) (y_priceWas : Nat) (y_isKept : Nat) (y_kept : Nat) (y_trace : Nat) (m_traced : Int32) (cy : Nat → Int32) (gg : Nat → Int) (hpd_cy : prd cyK 192 cy) (hsm : -1 ≤ m_seen.toInt ∧ m_seen.toInt < 80 ∧ 0 ≤ m_mirrors.toInt ∧ m_mirrors.toInt ≤ 2) (hgy : GY gg cy) (hgb : gB gg) (hsk : m_seen.toInt = -1 ∨ insK gg m_seen.toInt) : mI l yX9_ownerSeen wsX9_ownerSeen 0 0 D (tyW cI cZ cC cS) sq [(y, .inr (9, [.int m_thrown, .int m_status, .ref y_lane, .ref y_many, .ref y_item, .ref y_city, .ref y_fresh, .int m_isThere, .ref y_tape, .int m_taped, .int m_latest, .int m_length, .int m_cursor, .int m_token, .int m_start, .int m_till, .int m_fault, .int m_faultAt, .int m_seen, .int m_mirrors, .ref y_cost, .ref y_away, .ref y_fee, .ref y_goesTo, .ref y_priceWas, .ref y_isKept, .ref y_kept, .ref y_trace, .int m_traced])), (y_city, .inl (cI, 192, .inl cy))] sz [.ref y] (fun r w => ((-1 ≤ r.toInt ∧ r.toInt ≤ 5) ∧ ((ownG gg m_seen.toInt = 6 ∧ r.toInt = -1) ∨ (r.toInt = ownG gg m_seen.toInt ∧ 0 ≤ r.toInt ∧ r.toInt ≤ 5)) ∧ w = [(y, .inr (9, [.int m_thrown, .int m_status, .ref y_lane, .ref y_many, .ref y_item, .ref y_city, .ref y_fresh, .int m_isThere, .ref y_tape, .int m_taped, .int m_latest, .int m_length, .int m_cursor, .int m_token, .int m_start, .int m_till, .int m_fault, .int m_faultAt, .int m_seen, .int m_mirrors, .ref y_cost, .ref y_away, .ref y_fee, .ref y_goesTo, .ref y_priceWas, .ref y_isKept, .ref y_kept, .ref y_trace, .int m_traced])), (y_city, .inl (cI, 192, .inl cy))])) := by
  refine b_metI (cc := cX9_ownerSeen) (maxL := 1) (ret := (some .int)) (by decide) rfl (Nat.le_of_ble_eq_true rfl) ?_
  intro p e s m below meth c ls A H X hsz hP hK hT hD hA hS hl
  have S : CallFix p m c cX9_ownerSeen 1 s ([.ref y] : List Value).toArray wsX9_ownerSeen RX9 := X.1
  have hl : lv_has ls 1 [(0, .ref y)] := hl
  have iX9 := jX9_ownerSeen_X9
  have g1_ := GY_at (a := m_seen.toInt) hgy hgb hsk
  refine lv_aload_n S.1 S.2.1 dX9_ownerSeen_0 rfl (lv_at hl 0 rfl) ?_
  refine b_get (v := .int m_seen) S iX9 hK hP 0 rfl rfl 18 (by decide) (by decide +kernel) rfl dX9_ownerSeen_1 ?_
  refine lv_if_lt (tgt := 35) S.1 S.2.1 dX9_ownerSeen_4 (by decide) (fun c_1 => ?_) (fun c_1 => ?_)
  · rw [lt2 (a := m_seen) (b := 0) (A := m_seen.toInt) (B := 0) rfl rfl] at c_1
    refine lv_iconst (v := (-1)) S.1 S.2.1 dX9_ownerSeen_35 (by decide) ?_
    have lqm1 : Int32.toInt (-1) = -1 := by decide
    exact b_iret S.1 S.2.1 X.2.1 X.2.2.1 hP hD hS ⟨(by first | with_reducible assumption | (and_intros <;> first | with_reducible assumption | (intros; refine Int.le_antisymm ?_ ?_ <;> omega) | omega) | assumption | decide | (rw [show Int32.toInt 0 = 0 from rfl]; omega)), (by first | exact Or.inr ⟨by unfold ownG; rw [if_pos (by first | (refine Int.le_antisymm ?_ ?_ <;> omega) | omega)]; omega, by omega, by omega⟩ | exact Or.inl ⟨by unfold ownG; rw [if_neg (by first | (refine Int.le_antisymm ?_ ?_ <;> omega) | omega)], by first | omega | decide⟩), rfl⟩ dX9_ownerSeen_36
  · rw [lt2 (a := m_seen) (b := 0) (A := m_seen.toInt) (B := 0) rfl rfl] at c_1
    refine lv_aload_n S.1 S.2.1 dX9_ownerSeen_7 rfl (lv_at hl 0 rfl) ?_
    refine b_get (v := .ref y_city) S iX9 hK hP 0 rfl rfl 5 (by decide) (by decide +kernel) rfl dX9_ownerSeen_8 ?_
    refine lv_iconst (v := (4)) S.1 S.2.1 dX9_ownerSeen_11 (by decide) ?_
    refine lv_aload_n S.1 S.2.1 dX9_ownerSeen_12 rfl (lv_at hl 0 rfl) ?_
    refine b_get (v := .int m_seen) S iX9 hK hP 0 rfl rfl 18 (by decide) (by decide +kernel) rfl dX9_ownerSeen_13 ?_
    refine lv_iadd S.1 S.2.1 dX9_ownerSeen_16 ?_
    refine lv_topi (fun x_2 ex_2 => ?_)
    have tx_2 : x_2.toInt = 4 + (m_seen.toInt) := addI (A := 4) (B := m_seen.toInt) ex_2 rfl rfl (by  omega) (by  omega)
    have hin_3 : vp_in x_2 192 := (in_of (n := 192) (by  omega) (by  omega))
    refine va_iald S.1 S.2.1 hK.1 hP 1 0 rfl rfl hin_3 dX9_ownerSeen_17 ?_
    refine lv_topi (fun x_4 ex_4 => ?_)
    have tx_4 := cyg_A (x := x_4) (show prd cyK 192 cy by assumption) (by first | (refine Int.le_antisymm ?_ ?_ <;> omega) | omega) ex_4
    have cex_4 : x_4.toInt = (cy (4 + m_seen.toInt.toNat)).toInt := by rw [ex_4]; exact congrArg (fun z => (cy z).toInt) (by show (x_2).toInt.toNat = _; omega)
    refine lv_if_lt (tgt := 35) S.1 S.2.1 dX9_ownerSeen_18 (by decide) (fun c_5 => ?_) (fun c_5 => ?_)
    · rw [lt2 (a := x_4) (b := 0) (A := x_4.toInt) (B := 0) rfl rfl] at c_5
      refine lv_iconst (v := (-1)) S.1 S.2.1 dX9_ownerSeen_35 (by decide) ?_
      have lqm1 : Int32.toInt (-1) = -1 := by decide
      exact b_iret S.1 S.2.1 X.2.1 X.2.2.1 hP hD hS ⟨(by first | with_reducible assumption | (and_intros <;> first | with_reducible assumption | (intros; refine Int.le_antisymm ?_ ?_ <;> omega) | omega) | assumption | decide | (rw [show Int32.toInt 0 = 0 from rfl]; omega)), (by first | exact Or.inr ⟨by unfold ownG; rw [if_pos (by first | (refine Int.le_antisymm ?_ ?_ <;> omega) | omega)]; omega, by omega, by omega⟩ | exact Or.inl ⟨by unfold ownG; rw [if_neg (by first | (refine Int.le_antisymm ?_ ?_ <;> omega) | omega)], by first | omega | decide⟩), rfl⟩ dX9_ownerSeen_36
    · rw [lt2 (a := x_4) (b := 0) (A := x_4.toInt) (B := 0) rfl rfl] at c_5
      refine lv_aload_n S.1 S.2.1 dX9_ownerSeen_21 rfl (lv_at hl 0 rfl) ?_
      refine b_get (v := .ref y_city) S iX9 hK hP 0 rfl rfl 5 (by decide) (by decide +kernel) rfl dX9_ownerSeen_22 ?_
      refine lv_iconst (v := (4)) S.1 S.2.1 dX9_ownerSeen_25 (by decide) ?_
      refine lv_aload_n S.1 S.2.1 dX9_ownerSeen_26 rfl (lv_at hl 0 rfl) ?_
      refine b_get (v := .int m_seen) S iX9 hK hP 0 rfl rfl 18 (by decide) (by decide +kernel) rfl dX9_ownerSeen_27 ?_
      refine lv_iadd S.1 S.2.1 dX9_ownerSeen_30 ?_
      refine lv_topi (fun x_6 ex_6 => ?_)
      have tx_6 : x_6.toInt = 4 + (m_seen.toInt) := addI (A := 4) (B := m_seen.toInt) ex_6 rfl rfl (by  omega) (by  omega)
      have hin_7 : vp_in x_6 192 := (in_of (n := 192) (by  omega) (by  omega))
      refine va_iald S.1 S.2.1 hK.1 hP 1 0 rfl rfl hin_7 dX9_ownerSeen_31 ?_
      refine lv_topi (fun x_8 ex_8 => ?_)
      have tx_8 := cyg_A (x := x_8) (show prd cyK 192 cy by assumption) (by first | (refine Int.le_antisymm ?_ ?_ <;> omega) | omega) ex_8
      have cex_8 : x_8.toInt = (cy (4 + m_seen.toInt.toNat)).toInt := by rw [ex_8]; exact congrArg (fun z => (cy z).toInt) (by show (x_6).toInt.toNat = _; omega)
      refine lv_goto (tgt := 36) S.1 S.2.1 dX9_ownerSeen_32 (by decide) ?_
      exact b_iret S.1 S.2.1 X.2.1 X.2.2.1 hP hD hS ⟨(by first | with_reducible assumption | (and_intros <;> first | with_reducible assumption | (intros; refine Int.le_antisymm ?_ ?_ <;> omega) | omega) | assumption | decide | (rw [show Int32.toInt 0 = 0 from rfl]; omega)), (by first | exact Or.inr ⟨by unfold ownG; rw [if_pos (by first | (refine Int.le_antisymm ?_ ?_ <;> omega) | omega)]; omega, by omega, by omega⟩ | exact Or.inl ⟨by unfold ownG; rw [if_neg (by first | (refine Int.le_antisymm ?_ ?_ <;> omega) | omega)], by first | omega | decide⟩), rfl⟩ dX9_ownerSeen_36
theorem mul3 {x a b : Int32} (e : x = a * b) (ha : 0 ≤ a.toInt ∧ a.toInt ≤ 99) (hb : 1 ≤ b.toInt ∧ b.toInt ≤ 3) : 0 ≤ x.toInt ∧ x.toInt ≤ 400 := by
  have h1 : 0 ≤ a.toInt * b.toInt := Int.mul_nonneg ha.1 (by first | (refine Int.le_antisymm ?_ ?_ <;> omega) | omega)
  have h2 : a.toInt * b.toInt ≤ 99 * 3 := Int.mul_le_mul ha.2 hb.2 (by first | (refine Int.le_antisymm ?_ ?_ <;> omega) | omega) (by first | (refine Int.le_antisymm ?_ ?_ <;> omega) | omega)
  have h3 : x.toInt = a.toInt * b.toInt := mulI (A := a.toInt) (B := b.toInt) e rfl rfl (by first | (refine Int.le_antisymm ?_ ?_ <;> omega) | omega) (by first | (refine Int.le_antisymm ?_ ?_ <;> omega) | omega)
  omega
set_option maxHeartbeats 4000000 in
set_option maxRecDepth 100000 in
theorem s_X9_priceSeen_x (l : Launch) (D : va_G) (cI cZ cC cS : ClassId) (sq : Nat → Nat) (sz : Nat) (y : Nat) (y_city : Nat) (m_thrown : Int32) (m_status : Int32) (y_lane : Nat) (y_many : Nat) (y_item : Nat) (y_fresh : Nat) (m_isThere : Int32) (y_tape : Nat) (m_taped : Int32) (m_latest : Int32) (m_length : Int32) (m_cursor : Int32) (m_token : Int32) (m_start : Int32) (m_till : Int32) (m_fault : Int32) (m_faultAt : Int32) (m_seen : Int32) (m_mirrors : Int32) (y_cost : Nat) (y_away : Nat) (y_fee : Nat) (y_goesTo : Nat) (y_priceWas : Nat) (y_isKept : Nat) (y_kept : Nat) (y_trace : Nat) (m_traced : Int32) (cy : Nat → Int32) (gg : Nat → Int) (hpd_cy : prd cyK 192 cy) (hsm : -1 ≤ m_seen.toInt ∧ m_seen.toInt < 80 ∧ 0 ≤ m_mirrors.toInt ∧ m_mirrors.toInt ≤ 2) (hgy : GY gg cy) (hgb : gB gg) (hsk : m_seen.toInt = -1 ∨ insK gg m_seen.toInt) (hcs : CYs gg cy) : mI l yX9_priceSeen wsX9_priceSeen 1 40 D (tyW cI cZ cC cS) sq [(y, .inr (9, [.int m_thrown, .int m_status, .ref y_lane, .ref y_many, .ref y_item, .ref y_city, .ref y_fresh, .int m_isThere, .ref y_tape, .int m_taped, .int m_latest, .int m_length, .int m_cursor, .int m_token, .int m_start, .int m_till, .int m_fault, .int m_faultAt, .int m_seen, .int m_mirrors, .ref y_cost, .ref y_away, .ref y_fee, .ref y_goesTo, .ref y_priceWas, .ref y_isKept, .ref y_kept, .ref y_trace, .int m_traced])), (y_city, .inl (cI, 192, .inl cy))] sz [.ref y] (fun r w => ((0 ≤ r.toInt ∧ r.toInt ≤ 400) ∧ (r.toInt = prG gg (ownG gg m_seen.toInt) m_mirrors.toInt) ∧ w = [(y, .inr (9, [.int m_thrown, .int m_status, .ref y_lane, .ref y_many, .ref y_item, .ref y_city, .ref y_fresh, .int m_isThere, .ref y_tape, .int m_taped, .int m_latest, .int m_length, .int m_cursor, .int m_token, .int m_start, .int m_till, .int m_fault, .int m_faultAt, .int m_seen, .int m_mirrors, .ref y_cost, .ref y_away, .ref y_fee, .ref y_goesTo, .ref y_priceWas, .ref y_isKept, .ref y_kept, .ref y_trace, .int m_traced])), (y_city, .inl (cI, 192, .inl cy))])) := by
  refine b_metI (cc := cX9_priceSeen) (maxL := 2) (ret := (some .int)) (by decide) rfl (Nat.le_of_ble_eq_true rfl) ?_
  intro p e s m below meth c ls A H X hsz hP hK hT hD hA hS hl
  have S : CallFix p m c cX9_priceSeen 2 s ([.ref y] : List Value).toArray wsX9_priceSeen RX9 := X.1
  have hl : lv_has ls 2 [(0, .ref y)] := hl
  have iX9 := jX9_priceSeen_X9
  refine lv_aload_n S.1 S.2.1 dX9_priceSeen_0 rfl (lv_at hl 0 rfl) ?_
  refine b_ai (wr := []) (b_runV (q0 := 0) (ci := 9) (As := []) (s_X9_ownerSeen_x l D cI cZ cC cS sq H.size y y_city m_thrown m_status y_lane y_many y_item y_fresh m_isThere y_tape m_taped m_latest m_length m_cursor m_token m_start m_till m_fault m_faultAt m_seen m_mirrors y_cost y_away y_fee y_goesTo y_priceWas y_isKept y_kept y_trace m_traced cy _ (by first | with_reducible assumption | assumption | omega | decide | (rw [show Int32.toInt 0 = 0 from rfl]; omega)) (by first | with_reducible assumption | (and_intros <;> first | with_reducible assumption | (intros; refine Int.le_antisymm ?_ ?_ <;> omega) | omega) | assumption | decide | (rw [show Int32.toInt 0 = 0 from rfl]; omega)) (by first | with_reducible assumption | assumption | omega | decide | (rw [show Int32.toInt 0 = 0 from rfl]; omega)) (by first | with_reducible assumption | assumption | omega | decide | (rw [show Int32.toInt 0 = 0 from rfl]; omega)) (by first | with_reducible assumption | (and_intros <;> first | with_reducible assumption | (intros; refine Int.le_antisymm ?_ ?_ <;> omega) | omega) | assumption | decide | (rw [show Int32.toInt 0 = 0 from rfl]; omega))) S gX9_priceSeen_X9_ownerSeen rfl hdV_X9_ownerSeen ⟨Nat.le_of_ble_eq_true rfl, Nat.le_of_ble_eq_true rfl⟩ ⟨Nat.le_of_ble_eq_true rfl, Nat.le_of_ble_eq_true rfl⟩ hK hT hS hA hP hD rfl rfl [0, 1] rfl (by decide) rfl hl.1 rfl (Nat.le_of_ble_eq_true rfl) dX9_priceSeen_1) hP hD hS hA [0, 1] [] rfl rfl (by decide) (by decide) (fun r_1 w_2 H locs hw_3 hP hD hS => ?_)
  obtain ⟨hf_4, hf_5, rfl⟩ := hw_3
  have hP : va_P D vwCl [(y, .inr (9, [.int m_thrown, .int m_status, .ref y_lane, .ref y_many, .ref y_item, .ref y_city, .ref y_fresh, .int m_isThere, .ref y_tape, .int m_taped, .int m_latest, .int m_length, .int m_cursor, .int m_token, .int m_start, .int m_till, .int m_fault, .int m_faultAt, .int m_seen, .int m_mirrors, .ref y_cost, .ref y_away, .ref y_fee, .ref y_goesTo, .ref y_priceWas, .ref y_isKept, .ref y_kept, .ref y_trace, .int m_traced])), (y_city, .inl (cI, 192, .inl cy))] H := hP
  have hD : va_D A [(y, .inr (9, [.int m_thrown, .int m_status, .ref y_lane, .ref y_many, .ref y_item, .ref y_city, .ref y_fresh, .int m_isThere, .ref y_tape, .int m_taped, .int m_latest, .int m_length, .int m_cursor, .int m_token, .int m_start, .int m_till, .int m_fault, .int m_faultAt, .int m_seen, .int m_mirrors, .ref y_cost, .ref y_away, .ref y_fee, .ref y_goesTo, .ref y_priceWas, .ref y_isKept, .ref y_kept, .ref y_trace, .int m_traced])), (y_city, .inl (cI, 192, .inl cy))] := hD
  refine lv_istore_n (lv' := [(1, .int r_1), (0, .ref y)]) S.1 S.2.1 dX9_priceSeen_4 rfl hl (by decide) rfl (fun ls hl => ?_)
  refine lv_iload_n S.1 S.2.1 dX9_priceSeen_5 rfl (lv_at hl 0 rfl) ?_
  refine lv_if_ge (tgt := 13) S.1 S.2.1 dX9_priceSeen_6 (by decide) (fun c_6 => ?_) (fun c_6 => ?_)
  · rw [le2 (a := 0) (b := r_1) (A := 0) (B := r_1.toInt) rfl rfl] at c_6
    refine lv_aload_n S.1 S.2.1 dX9_priceSeen_13 rfl (lv_at hl 1 rfl) ?_
    refine b_get (v := .ref y_city) S iX9 hK hP 0 rfl rfl 5 (by decide) (by decide +kernel) rfl dX9_priceSeen_14 ?_
    refine lv_bipush (v := (84)) S.1 S.2.1 dX9_priceSeen_17 (by decide) ?_
    refine lv_iload_n S.1 S.2.1 dX9_priceSeen_19 rfl (lv_at hl 0 rfl) ?_
    refine lv_iadd S.1 S.2.1 dX9_priceSeen_20 ?_
    refine lv_topi (fun x_7 ex_7 => ?_)
    have tx_7 : x_7.toInt = 84 + (r_1.toInt) := addI (A := 84) (B := r_1.toInt) ex_7 rfl rfl (by  omega) (by  omega)
    have hin_8 : vp_in x_7 192 := (in_of (n := 192) (by  omega) (by  omega))
    refine va_iald S.1 S.2.1 hK.1 hP 1 0 rfl rfl hin_8 dX9_priceSeen_21 ?_
    refine lv_topi (fun x_9 ex_9 => ?_)
    have tx_9 := cyg_P (x := x_9) (show prd cyK 192 cy by assumption) (by first | (refine Int.le_antisymm ?_ ?_ <;> omega) | omega) ex_9
    have pv : x_9.toInt = gg (84 + (r_1).toInt.toNat) := by rw [ex_9]; exact (congrArg (fun z => (cy z).toInt) (by show (x_7).toInt.toNat = 84 + (r_1).toInt.toNat; omega)).trans (hcs.1 (84 + (r_1).toInt.toNat) (by first | (refine Int.le_antisymm ?_ ?_ <;> omega) | omega))
    refine lv_aload_n S.1 S.2.1 dX9_priceSeen_22 rfl (lv_at hl 1 rfl) ?_
    refine b_get (v := .int m_mirrors) S iX9 hK hP 0 rfl rfl 19 (by decide) (by decide +kernel) rfl dX9_priceSeen_23 ?_
    refine lv_iconst (v := (1)) S.1 S.2.1 dX9_priceSeen_26 (by decide) ?_
    refine lv_iadd S.1 S.2.1 dX9_priceSeen_27 ?_
    refine lv_topi (fun x_10 ex_10 => ?_)
    have tx_10 : x_10.toInt = m_mirrors.toInt + (1) := addI (A := m_mirrors.toInt) (B := 1) ex_10 rfl rfl (by  omega) (by  omega)
    refine lv_imul S.1 S.2.1 dX9_priceSeen_28 ?_
    refine lv_topi (fun x_11 ex_11 => ?_)
    have tx_11 : 0 ≤ x_11.toInt ∧ x_11.toInt ≤ 400 := mul3 ex_11 (by first | (refine Int.le_antisymm ?_ ?_ <;> omega) | omega) (by first | (refine Int.le_antisymm ?_ ?_ <;> omega) | omega); have ux_11 := mulP (x := x_11) ex_11 (by first | (refine Int.le_antisymm ?_ ?_ <;> omega) | omega) (by first | (refine Int.le_antisymm ?_ ?_ <;> omega) | omega)
    exact b_iret S.1 S.2.1 X.2.1 X.2.2.1 hP hD hS ⟨(by first | with_reducible assumption | (and_intros <;> first | with_reducible assumption | (intros; refine Int.le_antisymm ?_ ?_ <;> omega) | omega) | assumption | decide | (rw [show Int32.toInt 0 = 0 from rfl]; omega)), (by first | exact prY_0 (by first | (refine Int.le_antisymm ?_ ?_ <;> omega) | omega) rfl | exact prY (by first | (refine Int.le_antisymm ?_ ?_ <;> omega) | omega) pv (by first | (refine Int.le_antisymm ?_ ?_ <;> omega) | omega) (by assumption)), rfl⟩ dX9_priceSeen_29
  · rw [le2 (a := 0) (b := r_1) (A := 0) (B := r_1.toInt) rfl rfl] at c_6
    refine lv_iconst (v := (0)) S.1 S.2.1 dX9_priceSeen_9 (by decide) ?_
    refine lv_goto (tgt := 29) S.1 S.2.1 dX9_priceSeen_10 (by decide) ?_
    have lq0 : Int32.toInt (0) = 0 := by decide
    exact b_iret S.1 S.2.1 X.2.1 X.2.2.1 hP hD hS ⟨(by first | with_reducible assumption | (and_intros <;> first | with_reducible assumption | (intros; refine Int.le_antisymm ?_ ?_ <;> omega) | omega) | assumption | decide | (rw [show Int32.toInt 0 = 0 from rfl]; omega)), (by first | exact prY_0 (by first | (refine Int.le_antisymm ?_ ?_ <;> omega) | omega) rfl | exact prY (by first | (refine Int.le_antisymm ?_ ?_ <;> omega) | omega) pv (by first | (refine Int.le_antisymm ?_ ?_ <;> omega) | omega) (by assumption)), rfl⟩ dX9_priceSeen_29
set_option maxHeartbeats 4000000 in
set_option maxRecDepth 100000 in
theorem s_X9_isOne (l : Launch) (D : va_G) (cI cZ cC cS : ClassId) (sq : Nat → Nat) (sz : Nat) (y : Nat) (y_city : Nat) (a : Int32) (m_thrown : Int32) (m_status : Int32) (y_lane : Nat) (y_many : Nat) (y_item : Nat) (y_fresh : Nat) (m_isThere : Int32) (y_tape : Nat) (m_taped : Int32) (m_latest : Int32) (m_length : Int32) (m_cursor : Int32) (m_token : Int32) (m_start : Int32) (m_till : Int32) (m_fault : Int32) (m_faultAt : Int32) (m_seen : Int32) (m_mirrors : Int32) (y_cost : Nat) (y_away : Nat) (y_fee : Nat) (y_goesTo : Nat) (y_priceWas : Nat) (y_isKept : Nat) (y_kept : Nat) (y_trace : Nat) (m_traced : Int32) (cy : Nat → Int32) (hpd_cy : prd cyK 192 cy) : mI l yX9_isOne wsX9_isOne 1 40 D (tyW cI cZ cC cS) sq [(y, .inr (9, [.int m_thrown, .int m_status, .ref y_lane, .ref y_many, .ref y_item, .ref y_city, .ref y_fresh, .int m_isThere, .ref y_tape, .int m_taped, .int m_latest, .int m_length, .int m_cursor, .int m_token, .int m_start, .int m_till, .int m_fault, .int m_faultAt, .int m_seen, .int m_mirrors, .ref y_cost, .ref y_away, .ref y_fee, .ref y_goesTo, .ref y_priceWas, .ref y_isKept, .ref y_kept, .ref y_trace, .int m_traced])), (y_city, .inl (cI, 192, .inl cy))] sz [.ref y, .int a] (fun r w => ((0 ≤ a.toInt ∧ a.toInt < (cy 3).toInt ∧ a.toInt < 6) ∧ r = 1 ∧ w = [(y, .inr (9, [.int m_thrown, .int m_status, .ref y_lane, .ref y_many, .ref y_item, .ref y_city, .ref y_fresh, .int m_isThere, .ref y_tape, .int m_taped, .int m_latest, .int m_length, .int m_cursor, .int m_token, .int m_start, .int m_till, .int m_fault, .int m_faultAt, .int m_seen, .int m_mirrors, .ref y_cost, .ref y_away, .ref y_fee, .ref y_goesTo, .ref y_priceWas, .ref y_isKept, .ref y_kept, .ref y_trace, .int m_traced])), (y_city, .inl (cI, 192, .inl cy))]) ∨ ((¬ (0 ≤ a.toInt ∧ a.toInt < (cy 3).toInt)) ∧ r = 0 ∧ w = [(y, .inr (9, [.int m_thrown, .int m_status, .ref y_lane, .ref y_many, .ref y_item, .ref y_city, .ref y_fresh, .int m_isThere, .ref y_tape, .int m_taped, .int m_latest, .int m_length, .int m_cursor, .int m_token, .int m_start, .int m_till, .int m_fault, .int m_faultAt, .int m_seen, .int m_mirrors, .ref y_cost, .ref y_away, .ref y_fee, .ref y_goesTo, .ref y_priceWas, .ref y_isKept, .ref y_kept, .ref y_trace, .int m_traced])), (y_city, .inl (cI, 192, .inl cy))])) := by
  refine b_metI (cc := cX9_isOne) (maxL := 2) (ret := (some .boolean)) (by decide) rfl (Nat.le_of_ble_eq_true rfl) ?_
  intro p e s m below meth c ls A H X hsz hP hK hT hD hA hS hl
  have S : CallFix p m c cX9_isOne 2 s ([.ref y, .int a] : List Value).toArray wsX9_isOne RX9 := X.1
  have hl : lv_has ls 2 [(0, .ref y), (1, .int a)] := hl
  have iX9 := jX9_isOne_X9
  refine lv_iload_n S.1 S.2.1 dX9_isOne_0 rfl (lv_at hl 1 rfl) ?_
  refine lv_i2l (v := a.toInt64) S.1 S.2.1 dX9_isOne_1 rfl ?_
  refine lv_lconst (v := 0) S.1 S.2.1 dX9_isOne_2 (by decide) ?_
  refine lv_aload_n S.1 S.2.1 dX9_isOne_3 rfl (lv_at hl 0 rfl) ?_
  refine b_get (v := .ref y_city) S iX9 hK hP 0 rfl rfl 5 (by decide) (by decide +kernel) rfl dX9_isOne_4 ?_
  refine lv_iconst (v := (3)) S.1 S.2.1 dX9_isOne_7 (by decide) ?_
  have hin_1 : vp_in (3 : Int32) 192 := (by unfold vp_in; decide)
  refine va_iald S.1 S.2.1 hK.1 hP 1 0 rfl rfl hin_1 dX9_isOne_8 ?_
  refine lv_topi (fun x_2 ex_2 => ?_)
  have tx_2 := cyg_N (x := x_2) (show prd cyK 192 cy by assumption) (by decide) ex_2
  have bx_2 : x_2.toInt = (cy 3).toInt := by rw [ex_2]; rfl
  refine lv_iconst (v := (1)) S.1 S.2.1 dX9_isOne_9 (by decide) ?_
  refine lv_isub S.1 S.2.1 dX9_isOne_10 ?_
  refine lv_topi (fun x_3 ex_3 => ?_)
  have tx_3 : x_3.toInt = x_2.toInt - (1) := subI (A := x_2.toInt) (B := 1) ex_3 rfl rfl (by  omega) (by  omega)
  refine lv_i2l (v := x_3.toInt64) S.1 S.2.1 dX9_isOne_11 rfl ?_
  refine b_ai (wr := [(y, .inr (9, [.int m_thrown, .int m_status, .ref y_lane, .ref y_many, .ref y_item, .ref y_city, .ref y_fresh, .int m_isThere, .ref y_tape, .int m_taped, .int m_latest, .int m_length, .int m_cursor, .int m_token, .int m_start, .int m_till, .int m_fault, .int m_faultAt, .int m_seen, .int m_mirrors, .ref y_cost, .ref y_away, .ref y_fee, .ref y_goesTo, .ref y_priceWas, .ref y_isKept, .ref y_kept, .ref y_trace, .int m_traced])), (y_city, .inl (cI, 192, .inl cy))]) (b_runS (As := [.long (a.toInt64), .long 0, .long (x_3.toInt64)]) (s_X9_in l D cI cZ cC cS sq H.size (a.toInt64) (0) (x_3.toInt64)) S gX9_isOne_X9_in rfl hdS_X9_in ⟨Nat.le_of_ble_eq_true rfl, Nat.le_of_ble_eq_true rfl⟩ ⟨Nat.le_of_ble_eq_true rfl, Nat.le_of_ble_eq_true rfl⟩ hK hT hS hA hP hD [] rfl (by decide) rfl hl.1 rfl (Nat.le_of_ble_eq_true rfl) dX9_isOne_12) hP hD hS hA [] [0, 1] rfl rfl (by decide) (by decide) (fun r_4 w_5 H locs hw_6 hP hD hS => ?_)
  rcases hw_6 with ⟨hf_7, rfl, rfl⟩ | ⟨hf_8, rfl, rfl⟩
  · have hf_7 : (0) ≤ a.toInt ∧ a.toInt ≤ x_3.toInt := by simp only [Int32.toInt_toInt64] at hf_7; exact hf_7
    have hP : va_P D vwCl [(y, .inr (9, [.int m_thrown, .int m_status, .ref y_lane, .ref y_many, .ref y_item, .ref y_city, .ref y_fresh, .int m_isThere, .ref y_tape, .int m_taped, .int m_latest, .int m_length, .int m_cursor, .int m_token, .int m_start, .int m_till, .int m_fault, .int m_faultAt, .int m_seen, .int m_mirrors, .ref y_cost, .ref y_away, .ref y_fee, .ref y_goesTo, .ref y_priceWas, .ref y_isKept, .ref y_kept, .ref y_trace, .int m_traced])), (y_city, .inl (cI, 192, .inl cy))] H := hP
    have hD : va_D A [(y, .inr (9, [.int m_thrown, .int m_status, .ref y_lane, .ref y_many, .ref y_item, .ref y_city, .ref y_fresh, .int m_isThere, .ref y_tape, .int m_taped, .int m_latest, .int m_length, .int m_cursor, .int m_token, .int m_start, .int m_till, .int m_fault, .int m_faultAt, .int m_seen, .int m_mirrors, .ref y_cost, .ref y_away, .ref y_fee, .ref y_goesTo, .ref y_priceWas, .ref y_isKept, .ref y_kept, .ref y_trace, .int m_traced])), (y_city, .inl (cI, 192, .inl cy))] := hD
    exact b_zret S.1 S.2.1 X.2.1 X.2.2.1 rfl hP hD hS (Or.inl ⟨(by first | with_reducible assumption | (and_intros <;> first | with_reducible assumption | (intros; refine Int.le_antisymm ?_ ?_ <;> omega) | omega) | assumption | decide | (rw [show Int32.toInt 0 = 0 from rfl]; omega)), rfl, rfl⟩) dX9_isOne_15
  · have hf_8 : a.toInt < (0) ∨ x_3.toInt < a.toInt := by simp only [Int32.toInt_toInt64] at hf_8; exact hf_8
    have hP : va_P D vwCl [(y, .inr (9, [.int m_thrown, .int m_status, .ref y_lane, .ref y_many, .ref y_item, .ref y_city, .ref y_fresh, .int m_isThere, .ref y_tape, .int m_taped, .int m_latest, .int m_length, .int m_cursor, .int m_token, .int m_start, .int m_till, .int m_fault, .int m_faultAt, .int m_seen, .int m_mirrors, .ref y_cost, .ref y_away, .ref y_fee, .ref y_goesTo, .ref y_priceWas, .ref y_isKept, .ref y_kept, .ref y_trace, .int m_traced])), (y_city, .inl (cI, 192, .inl cy))] H := hP
    have hD : va_D A [(y, .inr (9, [.int m_thrown, .int m_status, .ref y_lane, .ref y_many, .ref y_item, .ref y_city, .ref y_fresh, .int m_isThere, .ref y_tape, .int m_taped, .int m_latest, .int m_length, .int m_cursor, .int m_token, .int m_start, .int m_till, .int m_fault, .int m_faultAt, .int m_seen, .int m_mirrors, .ref y_cost, .ref y_away, .ref y_fee, .ref y_goesTo, .ref y_priceWas, .ref y_isKept, .ref y_kept, .ref y_trace, .int m_traced])), (y_city, .inl (cI, 192, .inl cy))] := hD
    exact b_zret S.1 S.2.1 X.2.1 X.2.2.1 rfl hP hD hS (Or.inr (⟨(by first | with_reducible assumption | (and_intros <;> first | with_reducible assumption | (intros; refine Int.le_antisymm ?_ ?_ <;> omega) | omega) | assumption | decide | (rw [show Int32.toInt 0 = 0 from rfl]; omega)), rfl, rfl⟩)) dX9_isOne_15
set_option maxHeartbeats 4000000 in
set_option maxRecDepth 100000 in
theorem s_X9_of (l : Launch) (D : va_G) (cI cZ cC cS : ClassId) (sq : Nat → Nat) (sz : Nat) (y : Nat) (y_city : Nat) (a : Int32) (wa : Int32) (m_thrown : Int32) (m_status : Int32) (y_lane : Nat) (y_many : Nat) (y_item : Nat) (y_fresh : Nat) (m_isThere : Int32) (y_tape : Nat) (m_taped : Int32) (m_latest : Int32) (m_length : Int32) (m_cursor : Int32) (m_token : Int32) (m_start : Int32) (m_till : Int32) (m_fault : Int32) (m_faultAt : Int32) (m_seen : Int32) (m_mirrors : Int32) (y_cost : Nat) (y_away : Nat) (y_fee : Nat) (y_goesTo : Nat) (y_priceWas : Nat) (y_isKept : Nat) (y_kept : Nat) (y_trace : Nat) (m_traced : Int32) (cy : Nat → Int32) (hpd_cy : prd cyK 192 cy) (ha : 0 ≤ a.toInt ∧ a.toInt < 6) (hwa : 0 ≤ wa.toInt ∧ wa.toInt < 4) : mI l yX9_of wsX9_of 0 0 D (tyW cI cZ cC cS) sq [(y, .inr (9, [.int m_thrown, .int m_status, .ref y_lane, .ref y_many, .ref y_item, .ref y_city, .ref y_fresh, .int m_isThere, .ref y_tape, .int m_taped, .int m_latest, .int m_length, .int m_cursor, .int m_token, .int m_start, .int m_till, .int m_fault, .int m_faultAt, .int m_seen, .int m_mirrors, .ref y_cost, .ref y_away, .ref y_fee, .ref y_goesTo, .ref y_priceWas, .ref y_isKept, .ref y_kept, .ref y_trace, .int m_traced])), (y_city, .inl (cI, 192, .inl cy))] sz [.ref y, .int a, .int wa] (fun r w => (((wa.toInt = 0 ∨ wa.toInt = 1) → 0 ≤ r.toInt ∧ r.toInt < 80) ∧ (r = cy (96 + 4 * a.toInt + wa.toInt).toNat) ∧ w = [(y, .inr (9, [.int m_thrown, .int m_status, .ref y_lane, .ref y_many, .ref y_item, .ref y_city, .ref y_fresh, .int m_isThere, .ref y_tape, .int m_taped, .int m_latest, .int m_length, .int m_cursor, .int m_token, .int m_start, .int m_till, .int m_fault, .int m_faultAt, .int m_seen, .int m_mirrors, .ref y_cost, .ref y_away, .ref y_fee, .ref y_goesTo, .ref y_priceWas, .ref y_isKept, .ref y_kept, .ref y_trace, .int m_traced])), (y_city, .inl (cI, 192, .inl cy))])) := by
  refine b_metI (cc := cX9_of) (maxL := 3) (ret := (some .int)) (by decide) rfl (Nat.le_of_ble_eq_true rfl) ?_
  intro p e s m below meth c ls A H X hsz hP hK hT hD hA hS hl
  have S : CallFix p m c cX9_of 3 s ([.ref y, .int a, .int wa] : List Value).toArray wsX9_of RX9 := X.1
  have hl : lv_has ls 3 [(0, .ref y), (1, .int a), (2, .int wa)] := hl
  have iX9 := jX9_of_X9
  refine lv_aload_n S.1 S.2.1 dX9_of_0 rfl (lv_at hl 0 rfl) ?_
  refine b_get (v := .ref y_city) S iX9 hK hP 0 rfl rfl 5 (by decide) (by decide +kernel) rfl dX9_of_1 ?_
  refine lv_bipush (v := (96)) S.1 S.2.1 dX9_of_4 (by decide) ?_
  refine lv_iconst (v := (4)) S.1 S.2.1 dX9_of_6 (by decide) ?_
  refine lv_iload_n S.1 S.2.1 dX9_of_7 rfl (lv_at hl 1 rfl) ?_
  refine lv_imul S.1 S.2.1 dX9_of_8 ?_
  refine lv_topi (fun x_1 ex_1 => ?_)
  have tx_1 : x_1.toInt = 4 * a.toInt := mulI (A := 4) (B := a.toInt) ex_1 rfl rfl (by  omega) (by  omega)
  refine lv_iadd S.1 S.2.1 dX9_of_9 ?_
  refine lv_topi (fun x_2 ex_2 => ?_)
  have tx_2 : x_2.toInt = 96 + (x_1.toInt) := addI (A := 96) (B := x_1.toInt) ex_2 rfl rfl (by  omega) (by  omega)
  refine lv_iload_n S.1 S.2.1 dX9_of_10 rfl (lv_at hl 2 rfl) ?_
  refine lv_iadd S.1 S.2.1 dX9_of_11 ?_
  refine lv_topi (fun x_3 ex_3 => ?_)
  have tx_3 : x_3.toInt = x_2.toInt + (wa.toInt) := addI (A := x_2.toInt) (B := wa.toInt) ex_3 rfl rfl (by  omega) (by  omega)
  have hin_4 : vp_in x_3 192 := (in_of (n := 192) (by  omega) (by  omega))
  refine va_iald S.1 S.2.1 hK.1 hP 1 0 rfl rfl hin_4 dX9_of_12 ?_
  refine lv_topi (fun x_5 ex_5 => ?_)
  have gx_5 := (prd_get (show prd cyK 192 cy by assumption) (i := x_3) (by first | (refine Int.le_antisymm ?_ ?_ <;> omega) | omega) (by first | (refine Int.le_antisymm ?_ ?_ <;> omega) | omega) ex_5).2.2.2.2.2.2; have vx_5 : (wa.toInt = 0 ∨ wa.toInt = 1) → 0 ≤ x_5.toInt ∧ x_5.toInt < 80 := fun h => gx_5 (by show 96 ≤ (x_3).toInt.toNat; omega) (by show (x_3).toInt.toNat < 120; omega) (by show (x_3).toInt.toNat % 4 = 0 ∨ (x_3).toInt.toNat % 4 = 1; omega); have vv : x_5 = cy (96 + 4 * a.toInt + wa.toInt).toNat := by rw [ex_5, show (x_3).toNatClampNeg = (96 + 4 * a.toInt + wa.toInt).toNat from by show (x_3).toInt.toNat = _; omega]
  exact b_iret S.1 S.2.1 X.2.1 X.2.2.1 hP hD hS ⟨(by first | with_reducible assumption | (and_intros <;> first | with_reducible assumption | (intros; refine Int.le_antisymm ?_ ?_ <;> omega) | omega) | assumption | decide | (rw [show Int32.toInt 0 = 0 from rfl]; omega)), (by first | exact vv), rfl⟩ dX9_of_13
set_option maxHeartbeats 4000000 in
set_option maxRecDepth 100000 in
theorem lp_firstShut {p : Program} (l : Launch) {e : Env} {s : State} {m : MethodId} {below : List Frame} {meth : Method} {c : Code} (D : va_G) (cI cZ cC cS : ClassId) (sq : Nat → Nat) (y : Nat) (y_city : Nat) (k : Int32) (wy : Int32) (m_thrown : Int32) (m_status : Int32) (y_lane : Nat) (y_many : Nat) (y_item : Nat) (y_fresh : Nat) (m_isThere : Int32) (y_tape : Nat) (m_taped : Int32) (m_latest : Int32) (m_length : Int32) (m_cursor : Int32) (m_token : Int32) (m_start : Int32) (m_till : Int32) (m_fault : Int32) (m_faultAt : Int32) (m_seen : Int32) (m_mirrors : Int32) (y_cost : Nat) (y_away : Nat) (y_fee : Nat) (y_goesTo : Nat) (y_priceWas : Nat) (y_isKept : Nat) (y_kept : Nat) (y_trace : Nat) (m_traced : Int32) (cy : Nat → Int32) (hpd_cy : prd cyK 192 cy) (hk : 0 ≤ k.toInt ∧ k.toInt < 80) (hy : 0 ≤ wy.toInt ∧ wy.toInt < 8) {A : Nat → Prop} (X : bX p s m meth c cX9_firstShut 4 wsX9_firstShut yX9_firstShut (some .int) [.ref y, .int k, .int wy]) (hK : kW D (tyW cI cZ cC cS) sq s) (hT : sT sq A s s.heap) (hA : ∀ q, s.heap.size ≤ q → A q) (K : ∀ (at_ : Int32), (prd cyK 192 cy) → (-1 ≤ at_.toInt ∧ at_.toInt < 80) → ∀ (H : Heap) (locs : List Loc) (ls : Array Slot), va_P D vwCl [(y, .inr (9, [.int m_thrown, .int m_status, .ref y_lane, .ref y_many, .ref y_item, .ref y_city, .ref y_fresh, .int m_isThere, .ref y_tape, .int m_taped, .int m_latest, .int m_length, .int m_cursor, .int m_token, .int m_start, .int m_till, .int m_fault, .int m_faultAt, .int m_seen, .int m_mirrors, .ref y_cost, .ref y_away, .ref y_fee, .ref y_goesTo, .ref y_priceWas, .ref y_isKept, .ref y_kept, .ref y_trace, .int m_traced])), (y_city, .inl (cI, 192, .inl cy))] H → va_D A [(y, .inr (9, [.int m_thrown, .int m_status, .ref y_lane, .ref y_many, .ref y_item, .ref y_city, .ref y_fresh, .int m_isThere, .ref y_tape, .int m_taped, .int m_latest, .int m_length, .int m_cursor, .int m_token, .int m_start, .int m_till, .int m_fault, .int m_faultAt, .int m_seen, .int m_mirrors, .ref y_cost, .ref y_away, .ref y_fee, .ref y_goesTo, .ref y_priceWas, .ref y_isKept, .ref y_kept, .ref y_trace, .int m_traced])), (y_city, .inl (cI, 192, .inl cy))] → va_S A s.heap H locs → lv_has ls 4 [(3, .int at_), (0, .ref y), (1, .int k), (2, .int wy)] → W p l e (rmW 3 120 0 0) s m ([.ref y, .int k, .int wy] : List Value).toArray below meth c H locs 0 0 (MQ below (va_Qi (fun r w => ((-1 ≤ r.toInt ∧ r.toInt < 80) ∧ w = [(y, .inr (9, [.int m_thrown, .int m_status, .ref y_lane, .ref y_many, .ref y_item, .ref y_city, .ref y_fresh, .int m_isThere, .ref y_tape, .int m_taped, .int m_latest, .int m_length, .int m_cursor, .int m_token, .int m_start, .int m_till, .int m_fault, .int m_faultAt, .int m_seen, .int m_mirrors, .ref y_cost, .ref y_away, .ref y_fee, .ref y_goesTo, .ref y_priceWas, .ref y_isKept, .ref y_kept, .ref y_trace, .int m_traced])), (y_city, .inl (cI, 192, .inl cy))])) (wD D A) A) ([.ref y, .int k, .int wy] : List Value).toArray s 0 0 A) (F0 m 34 ls [])) : ∀ (mN : Nat) (at_ : Int32), (prd cyK 192 cy) → (-1 ≤ at_.toInt ∧ at_.toInt < 80) → (fsM wy.toInt at_.toInt < mN) → ∀ (H : Heap) (locs : List Loc) (ls : Array Slot), va_P D vwCl [(y, .inr (9, [.int m_thrown, .int m_status, .ref y_lane, .ref y_many, .ref y_item, .ref y_city, .ref y_fresh, .int m_isThere, .ref y_tape, .int m_taped, .int m_latest, .int m_length, .int m_cursor, .int m_token, .int m_start, .int m_till, .int m_fault, .int m_faultAt, .int m_seen, .int m_mirrors, .ref y_cost, .ref y_away, .ref y_fee, .ref y_goesTo, .ref y_priceWas, .ref y_isKept, .ref y_kept, .ref y_trace, .int m_traced])), (y_city, .inl (cI, 192, .inl cy))] H → va_D A [(y, .inr (9, [.int m_thrown, .int m_status, .ref y_lane, .ref y_many, .ref y_item, .ref y_city, .ref y_fresh, .int m_isThere, .ref y_tape, .int m_taped, .int m_latest, .int m_length, .int m_cursor, .int m_token, .int m_start, .int m_till, .int m_fault, .int m_faultAt, .int m_seen, .int m_mirrors, .ref y_cost, .ref y_away, .ref y_fee, .ref y_goesTo, .ref y_priceWas, .ref y_isKept, .ref y_kept, .ref y_trace, .int m_traced])), (y_city, .inl (cI, 192, .inl cy))] → va_S A s.heap H locs → lv_has ls 4 [(3, .int at_), (0, .ref y), (1, .int k), (2, .int wy)] → W p l e (rmW 3 120 0 0) s m ([.ref y, .int k, .int wy] : List Value).toArray below meth c H locs 0 0 (MQ below (va_Qi (fun r w => ((-1 ≤ r.toInt ∧ r.toInt < 80) ∧ w = [(y, .inr (9, [.int m_thrown, .int m_status, .ref y_lane, .ref y_many, .ref y_item, .ref y_city, .ref y_fresh, .int m_isThere, .ref y_tape, .int m_taped, .int m_latest, .int m_length, .int m_cursor, .int m_token, .int m_start, .int m_till, .int m_fault, .int m_faultAt, .int m_seen, .int m_mirrors, .ref y_cost, .ref y_away, .ref y_fee, .ref y_goesTo, .ref y_priceWas, .ref y_isKept, .ref y_kept, .ref y_trace, .int m_traced])), (y_city, .inl (cI, 192, .inl cy))])) (wD D A) A) ([.ref y, .int k, .int wy] : List Value).toArray s 0 0 A) (F0 m 7 ls []) := by
  have S : CallFix p m c cX9_firstShut 4 s ([.ref y, .int k, .int wy] : List Value).toArray wsX9_firstShut RX9 := X.1
  have iX9 := jX9_firstShut_X9
  intro mN
  induction mN with
  | zero => intro at_ hpd_cy hat hm; exact absurd hm (Nat.not_lt_zero _)
  | succ mN ih =>
    intro at_ hpd_cy hat hm H locs ls hP hD hS hl
    refine lv_iload_n S.1 S.2.1 dX9_firstShut_7 rfl (lv_at hl 0 rfl) ?_
    refine lv_if_lt (tgt := 34) S.1 S.2.1 dX9_firstShut_8 (by decide) (fun c_101 => ?_) (fun c_101 => ?_)
    · rw [lt2 (a := at_) (b := 0) (A := at_.toInt) (B := 0) rfl rfl] at c_101
      exact K at_ (by first | with_reducible assumption | assumption | omega | decide | (rw [show Int32.toInt 0 = 0 from rfl]; omega)) (by first | with_reducible assumption | (and_intros <;> first | with_reducible assumption | (intros; refine Int.le_antisymm ?_ ?_ <;> omega) | omega) | assumption | decide | (rw [show Int32.toInt 0 = 0 from rfl]; omega)) H _ ls hP hD hS (lv_sub hl [0, 1, 2, 3] rfl)
    · rw [lt2 (a := at_) (b := 0) (A := at_.toInt) (B := 0) rfl rfl] at c_101
      refine lv_aload_n S.1 S.2.1 dX9_firstShut_11 rfl (lv_at hl 1 rfl) ?_
      refine b_get (v := .ref y_city) S iX9 hK hP 0 rfl rfl 5 (by decide) (by decide +kernel) rfl dX9_firstShut_12 ?_
      refine lv_iconst (v := (4)) S.1 S.2.1 dX9_firstShut_15 (by decide) ?_
      refine lv_iload_n S.1 S.2.1 dX9_firstShut_16 rfl (lv_at hl 0 rfl) ?_
      refine lv_iadd S.1 S.2.1 dX9_firstShut_17 ?_
      refine lv_topi (fun x_102 ex_102 => ?_)
      have tx_102 : x_102.toInt = 4 + (at_.toInt) := addI (A := 4) (B := at_.toInt) ex_102 rfl rfl (by  omega) (by  omega)
      have hin_103 : vp_in x_102 192 := (in_of (n := 192) (by  omega) (by  omega))
      refine va_iald S.1 S.2.1 hK.1 hP 1 0 rfl rfl hin_103 dX9_firstShut_18 ?_
      refine lv_topi (fun x_104 ex_104 => ?_)
      have tx_104 := cyg_A (x := x_104) (show prd cyK 192 cy by assumption) (by first | (refine Int.le_antisymm ?_ ?_ <;> omega) | omega) ex_104
      refine lv_bipush (v := (-3)) S.1 S.2.1 dX9_firstShut_19 (by decide) ?_
      refine lv_icmp_ne (tgt := 34) S.1 S.2.1 dX9_firstShut_21 (by decide) (fun c_105 => ?_) (fun c_105 => ?_)
      · rw [eq2 (a := x_104) (b := (-3)) (A := x_104.toInt) (B := -3) rfl rfl] at c_105
        exact K at_ (by first | with_reducible assumption | assumption | omega | decide | (rw [show Int32.toInt 0 = 0 from rfl]; omega)) (by first | with_reducible assumption | (and_intros <;> first | with_reducible assumption | (intros; refine Int.le_antisymm ?_ ?_ <;> omega) | omega) | assumption | decide | (rw [show Int32.toInt 0 = 0 from rfl]; omega)) H _ ls hP hD hS (lv_sub hl [0, 1, 2, 3] rfl)
      · rw [eq2 (a := x_104) (b := (-3)) (A := x_104.toInt) (B := -3) rfl rfl] at c_105
        refine lv_aload_n S.1 S.2.1 dX9_firstShut_24 rfl (lv_at hl 1 rfl) ?_
        refine lv_iload_n S.1 S.2.1 dX9_firstShut_25 rfl (lv_at hl 0 rfl) ?_
        refine lv_iload_n S.1 S.2.1 dX9_firstShut_26 rfl (lv_at hl 3 rfl) ?_
        refine b_ai (wr := []) (b_runV (q0 := 0) (ci := 9) (As := [.int at_, .int wy]) (s_X9_nextTo l D cI cZ cC cS sq H.size y y_city at_ wy m_thrown m_status y_lane y_many y_item y_fresh m_isThere y_tape m_taped m_latest m_length m_cursor m_token m_start m_till m_fault m_faultAt m_seen m_mirrors y_cost y_away y_fee y_goesTo y_priceWas y_isKept y_kept y_trace m_traced cy (by first | with_reducible assumption | assumption | omega | decide | (rw [show Int32.toInt 0 = 0 from rfl]; omega)) (by first | with_reducible assumption | (and_intros <;> first | with_reducible assumption | (intros; refine Int.le_antisymm ?_ ?_ <;> omega) | omega) | assumption | decide | (rw [show Int32.toInt 0 = 0 from rfl]; omega)) (by first | with_reducible assumption | (and_intros <;> first | with_reducible assumption | (intros; refine Int.le_antisymm ?_ ?_ <;> omega) | omega) | assumption | decide | (rw [show Int32.toInt 0 = 0 from rfl]; omega))) S gX9_firstShut_X9_nextTo rfl hdV_X9_nextTo ⟨Nat.le_of_ble_eq_true rfl, Nat.le_of_ble_eq_true rfl⟩ ⟨Nat.le_of_ble_eq_true rfl, Nat.le_of_ble_eq_true rfl⟩ hK hT hS hA hP hD rfl rfl [0, 1] rfl (by decide) rfl hl.1 rfl (Nat.le_of_ble_eq_true rfl) dX9_firstShut_27) hP hD hS hA [0, 1] [] rfl rfl (by decide) (by decide) (fun r_106 w_107 H locs hw_108 hP hD hS => ?_)
        rcases hw_108 with ⟨hf_109, hf_110, rfl⟩ | ⟨hf_111, rfl, rfl⟩
        · have hP : va_P D vwCl [(y, .inr (9, [.int m_thrown, .int m_status, .ref y_lane, .ref y_many, .ref y_item, .ref y_city, .ref y_fresh, .int m_isThere, .ref y_tape, .int m_taped, .int m_latest, .int m_length, .int m_cursor, .int m_token, .int m_start, .int m_till, .int m_fault, .int m_faultAt, .int m_seen, .int m_mirrors, .ref y_cost, .ref y_away, .ref y_fee, .ref y_goesTo, .ref y_priceWas, .ref y_isKept, .ref y_kept, .ref y_trace, .int m_traced])), (y_city, .inl (cI, 192, .inl cy))] H := hP
          have hD : va_D A [(y, .inr (9, [.int m_thrown, .int m_status, .ref y_lane, .ref y_many, .ref y_item, .ref y_city, .ref y_fresh, .int m_isThere, .ref y_tape, .int m_taped, .int m_latest, .int m_length, .int m_cursor, .int m_token, .int m_start, .int m_till, .int m_fault, .int m_faultAt, .int m_seen, .int m_mirrors, .ref y_cost, .ref y_away, .ref y_fee, .ref y_goesTo, .ref y_priceWas, .ref y_isKept, .ref y_kept, .ref y_trace, .int m_traced])), (y_city, .inl (cI, 192, .inl cy))] := hD
          refine lv_istore_n (lv' := [(3, .int r_106), (0, .ref y), (1, .int k), (2, .int wy)]) S.1 S.2.1 dX9_firstShut_30 rfl hl (by decide) rfl (fun ls hl => ?_)
          refine lv_goto (tgt := 7) S.1 S.2.1 dX9_firstShut_31 (by decide) ?_
          exact ih r_106 (by first | with_reducible assumption | assumption | omega | decide | (rw [show Int32.toInt 0 = 0 from rfl]; omega)) (by first | with_reducible assumption | (and_intros <;> first | with_reducible assumption | (intros; refine Int.le_antisymm ?_ ?_ <;> omega) | omega) | assumption | decide | (rw [show Int32.toInt 0 = 0 from rfl]; omega)) (by first | omega | exact fsM_lt hm (by first | (refine Int.le_antisymm ?_ ?_ <;> omega) | omega) (by first | exact Or.inl rfl | exact Or.inl (by decide) | exact Or.inr (by first | (refine Int.le_antisymm ?_ ?_ <;> omega) | omega))) H _ ls hP hD hS (lv_sub hl [0, 1, 2, 3] rfl)
        · have hP : va_P D vwCl [(y, .inr (9, [.int m_thrown, .int m_status, .ref y_lane, .ref y_many, .ref y_item, .ref y_city, .ref y_fresh, .int m_isThere, .ref y_tape, .int m_taped, .int m_latest, .int m_length, .int m_cursor, .int m_token, .int m_start, .int m_till, .int m_fault, .int m_faultAt, .int m_seen, .int m_mirrors, .ref y_cost, .ref y_away, .ref y_fee, .ref y_goesTo, .ref y_priceWas, .ref y_isKept, .ref y_kept, .ref y_trace, .int m_traced])), (y_city, .inl (cI, 192, .inl cy))] H := hP
          have hD : va_D A [(y, .inr (9, [.int m_thrown, .int m_status, .ref y_lane, .ref y_many, .ref y_item, .ref y_city, .ref y_fresh, .int m_isThere, .ref y_tape, .int m_taped, .int m_latest, .int m_length, .int m_cursor, .int m_token, .int m_start, .int m_till, .int m_fault, .int m_faultAt, .int m_seen, .int m_mirrors, .ref y_cost, .ref y_away, .ref y_fee, .ref y_goesTo, .ref y_priceWas, .ref y_isKept, .ref y_kept, .ref y_trace, .int m_traced])), (y_city, .inl (cI, 192, .inl cy))] := hD
          refine lv_istore_n (lv' := [(3, .int (-1)), (0, .ref y), (1, .int k), (2, .int wy)]) S.1 S.2.1 dX9_firstShut_30 rfl hl (by decide) rfl (fun ls hl => ?_)
          refine lv_goto (tgt := 7) S.1 S.2.1 dX9_firstShut_31 (by decide) ?_
          have lqm1 : Int32.toInt (-1) = -1 := by decide
          exact ih (-1) (by first | with_reducible assumption | assumption | omega | decide | (rw [show Int32.toInt 0 = 0 from rfl]; omega)) (by first | with_reducible assumption | (and_intros <;> first | with_reducible assumption | (intros; refine Int.le_antisymm ?_ ?_ <;> omega) | omega) | assumption | decide | (rw [show Int32.toInt 0 = 0 from rfl]; omega)) (by first | omega | exact fsM_lt hm (by first | (refine Int.le_antisymm ?_ ?_ <;> omega) | omega) (by first | exact Or.inl rfl | exact Or.inl (by decide) | exact Or.inr (by first | (refine Int.le_antisymm ?_ ?_ <;> omega) | omega))) H _ ls hP hD hS (lv_sub hl [0, 1, 2, 3] rfl)
set_option maxHeartbeats 4000000 in
set_option maxRecDepth 100000 in
theorem s_X9_firstShut (l : Launch) (D : va_G) (cI cZ cC cS : ClassId) (sq : Nat → Nat) (sz : Nat) (y : Nat) (y_city : Nat) (k : Int32) (wy : Int32) (m_thrown : Int32) (m_status : Int32) (y_lane : Nat) (y_many : Nat) (y_item : Nat) (y_fresh : Nat) (m_isThere : Int32) (y_tape : Nat) (m_taped : Int32) (m_latest : Int32) (m_length : Int32) (m_cursor : Int32) (m_token : Int32) (m_start : Int32) (m_till : Int32) (m_fault : Int32) (m_faultAt : Int32) (m_seen : Int32) (m_mirrors : Int32) (y_cost : Nat) (y_away : Nat) (y_fee : Nat) (y_goesTo : Nat) (y_priceWas : Nat) (y_isKept : Nat) (y_kept : Nat) (y_trace : Nat) (m_traced : Int32) (cy : Nat → Int32) (hpd_cy : prd cyK 192 cy) (hk : 0 ≤ k.toInt ∧ k.toInt < 80) (hy : 0 ≤ wy.toInt ∧ wy.toInt < 8) : mI l yX9_firstShut wsX9_firstShut 3 120 D (tyW cI cZ cC cS) sq [(y, .inr (9, [.int m_thrown, .int m_status, .ref y_lane, .ref y_many, .ref y_item, .ref y_city, .ref y_fresh, .int m_isThere, .ref y_tape, .int m_taped, .int m_latest, .int m_length, .int m_cursor, .int m_token, .int m_start, .int m_till, .int m_fault, .int m_faultAt, .int m_seen, .int m_mirrors, .ref y_cost, .ref y_away, .ref y_fee, .ref y_goesTo, .ref y_priceWas, .ref y_isKept, .ref y_kept, .ref y_trace, .int m_traced])), (y_city, .inl (cI, 192, .inl cy))] sz [.ref y, .int k, .int wy] (fun r w => ((-1 ≤ r.toInt ∧ r.toInt < 80) ∧ w = [(y, .inr (9, [.int m_thrown, .int m_status, .ref y_lane, .ref y_many, .ref y_item, .ref y_city, .ref y_fresh, .int m_isThere, .ref y_tape, .int m_taped, .int m_latest, .int m_length, .int m_cursor, .int m_token, .int m_start, .int m_till, .int m_fault, .int m_faultAt, .int m_seen, .int m_mirrors, .ref y_cost, .ref y_away, .ref y_fee, .ref y_goesTo, .ref y_priceWas, .ref y_isKept, .ref y_kept, .ref y_trace, .int m_traced])), (y_city, .inl (cI, 192, .inl cy))])) := by
  refine b_metI (cc := cX9_firstShut) (maxL := 4) (ret := (some .int)) (by decide) rfl (Nat.le_of_ble_eq_true rfl) ?_
  intro p e s m below meth c ls A H X hsz hP hK hT hD hA hS hl
  have S : CallFix p m c cX9_firstShut 4 s ([.ref y, .int k, .int wy] : List Value).toArray wsX9_firstShut RX9 := X.1
  have hl : lv_has ls 4 [(0, .ref y), (1, .int k), (2, .int wy)] := hl
  refine lv_aload_n S.1 S.2.1 dX9_firstShut_0 rfl (lv_at hl 0 rfl) ?_
  refine lv_iload_n S.1 S.2.1 dX9_firstShut_1 rfl (lv_at hl 1 rfl) ?_
  refine lv_iload_n S.1 S.2.1 dX9_firstShut_2 rfl (lv_at hl 2 rfl) ?_
  refine b_ai (wr := []) (b_runV (q0 := 0) (ci := 9) (As := [.int k, .int wy]) (s_X9_nextTo l D cI cZ cC cS sq H.size y y_city k wy m_thrown m_status y_lane y_many y_item y_fresh m_isThere y_tape m_taped m_latest m_length m_cursor m_token m_start m_till m_fault m_faultAt m_seen m_mirrors y_cost y_away y_fee y_goesTo y_priceWas y_isKept y_kept y_trace m_traced cy (by first | with_reducible assumption | assumption | omega | decide | (rw [show Int32.toInt 0 = 0 from rfl]; omega)) (by first | with_reducible assumption | (and_intros <;> first | with_reducible assumption | (intros; refine Int.le_antisymm ?_ ?_ <;> omega) | omega) | assumption | decide | (rw [show Int32.toInt 0 = 0 from rfl]; omega)) (by first | with_reducible assumption | (and_intros <;> first | with_reducible assumption | (intros; refine Int.le_antisymm ?_ ?_ <;> omega) | omega) | assumption | decide | (rw [show Int32.toInt 0 = 0 from rfl]; omega))) S gX9_firstShut_X9_nextTo rfl hdV_X9_nextTo ⟨Nat.le_of_ble_eq_true rfl, Nat.le_of_ble_eq_true rfl⟩ ⟨Nat.le_of_ble_eq_true rfl, Nat.le_of_ble_eq_true rfl⟩ hK hT hS hA hP hD rfl rfl [0, 1] rfl (by decide) rfl hl.1 rfl (Nat.le_of_ble_eq_true rfl) dX9_firstShut_3) hP hD hS hA [0, 1] [] rfl rfl (by decide) (by decide) (fun r_1 w_2 H locs hw_3 hP hD hS => ?_)
  rcases hw_3 with ⟨hf_4, hf_5, rfl⟩ | ⟨hf_6, rfl, rfl⟩
  · have hP : va_P D vwCl [(y, .inr (9, [.int m_thrown, .int m_status, .ref y_lane, .ref y_many, .ref y_item, .ref y_city, .ref y_fresh, .int m_isThere, .ref y_tape, .int m_taped, .int m_latest, .int m_length, .int m_cursor, .int m_token, .int m_start, .int m_till, .int m_fault, .int m_faultAt, .int m_seen, .int m_mirrors, .ref y_cost, .ref y_away, .ref y_fee, .ref y_goesTo, .ref y_priceWas, .ref y_isKept, .ref y_kept, .ref y_trace, .int m_traced])), (y_city, .inl (cI, 192, .inl cy))] H := hP
    have hD : va_D A [(y, .inr (9, [.int m_thrown, .int m_status, .ref y_lane, .ref y_many, .ref y_item, .ref y_city, .ref y_fresh, .int m_isThere, .ref y_tape, .int m_taped, .int m_latest, .int m_length, .int m_cursor, .int m_token, .int m_start, .int m_till, .int m_fault, .int m_faultAt, .int m_seen, .int m_mirrors, .ref y_cost, .ref y_away, .ref y_fee, .ref y_goesTo, .ref y_priceWas, .ref y_isKept, .ref y_kept, .ref y_trace, .int m_traced])), (y_city, .inl (cI, 192, .inl cy))] := hD
    refine lv_istore_n (lv' := [(3, .int r_1), (0, .ref y), (1, .int k), (2, .int wy)]) S.1 S.2.1 dX9_firstShut_6 rfl hl (by decide) rfl (fun ls hl => ?_)
    refine lp_firstShut l D cI cZ cC cS sq y y_city k wy m_thrown m_status y_lane y_many y_item y_fresh m_isThere y_tape m_taped m_latest m_length m_cursor m_token m_start m_till m_fault m_faultAt m_seen m_mirrors y_cost y_away y_fee y_goesTo y_priceWas y_isKept y_kept y_trace m_traced cy hpd_cy hk hy X hK hT hA (fun at__7 hi_8 hi_9 H locs ls hP hD hS hl => ?_) _ r_1 (by first | with_reducible assumption | assumption | omega | decide | (rw [show Int32.toInt 0 = 0 from rfl]; omega)) (by first | with_reducible assumption | (and_intros <;> first | with_reducible assumption | (intros; refine Int.le_antisymm ?_ ?_ <;> omega) | omega) | assumption | decide | (rw [show Int32.toInt 0 = 0 from rfl]; omega)) (Nat.lt_succ_self _) H _ ls hP hD hS (lv_sub hl [0, 1, 2, 3] rfl)
    refine lv_iload_n S.1 S.2.1 dX9_firstShut_34 rfl (lv_at hl 0 rfl) ?_
    exact b_iret S.1 S.2.1 X.2.1 X.2.2.1 hP hD hS ⟨(by first | with_reducible assumption | (and_intros <;> first | with_reducible assumption | (intros; refine Int.le_antisymm ?_ ?_ <;> omega) | omega) | assumption | decide | (rw [show Int32.toInt 0 = 0 from rfl]; omega)), rfl⟩ dX9_firstShut_35
  · have hP : va_P D vwCl [(y, .inr (9, [.int m_thrown, .int m_status, .ref y_lane, .ref y_many, .ref y_item, .ref y_city, .ref y_fresh, .int m_isThere, .ref y_tape, .int m_taped, .int m_latest, .int m_length, .int m_cursor, .int m_token, .int m_start, .int m_till, .int m_fault, .int m_faultAt, .int m_seen, .int m_mirrors, .ref y_cost, .ref y_away, .ref y_fee, .ref y_goesTo, .ref y_priceWas, .ref y_isKept, .ref y_kept, .ref y_trace, .int m_traced])), (y_city, .inl (cI, 192, .inl cy))] H := hP
    have hD : va_D A [(y, .inr (9, [.int m_thrown, .int m_status, .ref y_lane, .ref y_many, .ref y_item, .ref y_city, .ref y_fresh, .int m_isThere, .ref y_tape, .int m_taped, .int m_latest, .int m_length, .int m_cursor, .int m_token, .int m_start, .int m_till, .int m_fault, .int m_faultAt, .int m_seen, .int m_mirrors, .ref y_cost, .ref y_away, .ref y_fee, .ref y_goesTo, .ref y_priceWas, .ref y_isKept, .ref y_kept, .ref y_trace, .int m_traced])), (y_city, .inl (cI, 192, .inl cy))] := hD
    refine lv_istore_n (lv' := [(3, .int (-1)), (0, .ref y), (1, .int k), (2, .int wy)]) S.1 S.2.1 dX9_firstShut_6 rfl hl (by decide) rfl (fun ls hl => ?_)
    refine lp_firstShut l D cI cZ cC cS sq y y_city k wy m_thrown m_status y_lane y_many y_item y_fresh m_isThere y_tape m_taped m_latest m_length m_cursor m_token m_start m_till m_fault m_faultAt m_seen m_mirrors y_cost y_away y_fee y_goesTo y_priceWas y_isKept y_kept y_trace m_traced cy hpd_cy hk hy X hK hT hA (fun at__10 hi_11 hi_12 H locs ls hP hD hS hl => ?_) _ (-1) (by first | with_reducible assumption | assumption | omega | decide | (rw [show Int32.toInt 0 = 0 from rfl]; omega)) (by first | with_reducible assumption | (and_intros <;> first | with_reducible assumption | (intros; refine Int.le_antisymm ?_ ?_ <;> omega) | omega) | assumption | decide | (rw [show Int32.toInt 0 = 0 from rfl]; omega)) (Nat.lt_succ_self _) H _ ls hP hD hS (lv_sub hl [0, 1, 2, 3] rfl)
    refine lv_iload_n S.1 S.2.1 dX9_firstShut_34 rfl (lv_at hl 0 rfl) ?_
    exact b_iret S.1 S.2.1 X.2.1 X.2.2.1 hP hD hS ⟨(by first | with_reducible assumption | (and_intros <;> first | with_reducible assumption | (intros; refine Int.le_antisymm ?_ ?_ <;> omega) | omega) | assumption | decide | (rw [show Int32.toInt 0 = 0 from rfl]; omega)), rfl⟩ dX9_firstShut_35
set_option maxHeartbeats 4000000 in
set_option maxRecDepth 100000 in
theorem s_X9_lookFrom (l : Launch) (D : va_G) (cI cZ cC cS : ClassId) (sq : Nat → Nat) (sz : Nat) (y : Nat) (y_city : Nat) (k : Int32) (wy : Int32) (m_thrown : Int32) (m_status : Int32) (y_lane : Nat) (y_many : Nat) (y_item : Nat) (y_fresh : Nat) (m_isThere : Int32) (y_tape : Nat) (m_taped : Int32) (m_latest : Int32) (m_length : Int32) (m_cursor : Int32) (m_token : Int32) (m_start : Int32) (m_till : Int32) (m_fault : Int32) (m_faultAt : Int32) (m_seen : Int32) (m_mirrors : Int32) (y_cost : Nat) (y_away : Nat) (y_fee : Nat) (y_goesTo : Nat) (y_priceWas : Nat) (y_isKept : Nat) (y_kept : Nat) (y_trace : Nat) (m_traced : Int32) (cy : Nat → Int32) (hpd_cy : prd cyK 192 cy) (hk : 0 ≤ k.toInt ∧ k.toInt < 80) (hy : 0 ≤ wy.toInt ∧ wy.toInt < 8) : mV l yX9_lookFrom wsX9_lookFrom 4 160 0 0 D (tyW cI cZ cC cS) sq [(y, .inr (9, [.int m_thrown, .int m_status, .ref y_lane, .ref y_many, .ref y_item, .ref y_city, .ref y_fresh, .int m_isThere, .ref y_tape, .int m_taped, .int m_latest, .int m_length, .int m_cursor, .int m_token, .int m_start, .int m_till, .int m_fault, .int m_faultAt, .int m_seen, .int m_mirrors, .ref y_cost, .ref y_away, .ref y_fee, .ref y_goesTo, .ref y_priceWas, .ref y_isKept, .ref y_kept, .ref y_trace, .int m_traced])), (y_city, .inl (cI, 192, .inl cy))] sz [.ref y, .int k, .int wy] (fun w => (∃ (m_seen2 : Int32), ∃ (m_mirrors2 : Int32), (-1 ≤ m_seen2.toInt ∧ m_seen2.toInt < 80 ∧ 0 ≤ m_mirrors2.toInt ∧ m_mirrors2.toInt ≤ 2) ∧ w = [(y, .inr (9, [.int m_thrown, .int m_status, .ref y_lane, .ref y_many, .ref y_item, .ref y_city, .ref y_fresh, .int m_isThere, .ref y_tape, .int m_taped, .int m_latest, .int m_length, .int m_cursor, .int m_token, .int m_start, .int m_till, .int m_fault, .int m_faultAt, .int m_seen2, .int m_mirrors2, .ref y_cost, .ref y_away, .ref y_fee, .ref y_goesTo, .ref y_priceWas, .ref y_isKept, .ref y_kept, .ref y_trace, .int m_traced])), (y_city, .inl (cI, 192, .inl cy))])) := by
  refine b_metV (cc := cX9_lookFrom) (maxL := 3) (ret := none) (by decide) rfl (Nat.le_of_ble_eq_true rfl) ?_
  intro p e s m below meth c ls A H X hsz hP hK hT hD hA hS hl
  have S : CallFix p m c cX9_lookFrom 3 s ([.ref y, .int k, .int wy] : List Value).toArray wsX9_lookFrom RX9 := X.1
  have hl : lv_has ls 3 [(0, .ref y), (1, .int k), (2, .int wy)] := hl
  have iX9 := jX9_lookFrom_X9
  refine lv_aload_n S.1 S.2.1 dX9_lookFrom_0 rfl (lv_at hl 0 rfl) ?_
  refine lv_iconst (v := (0)) S.1 S.2.1 dX9_lookFrom_1 (by decide) ?_
  refine b_put (v := .int 0) S iX9 tyX9 tyX9_ok nmX9 hK hP hD hS 0 rfl rfl 19 (by decide) (by decide +kernel) rfl rfl rfl (Nat.le_of_ble_eq_true rfl) dX9_lookFrom_2 (fun H locs hP hD hS => ?_)
  have hP : va_P D vwCl [(y, .inr (9, [.int m_thrown, .int m_status, .ref y_lane, .ref y_many, .ref y_item, .ref y_city, .ref y_fresh, .int m_isThere, .ref y_tape, .int m_taped, .int m_latest, .int m_length, .int m_cursor, .int m_token, .int m_start, .int m_till, .int m_fault, .int m_faultAt, .int m_seen, .int 0, .ref y_cost, .ref y_away, .ref y_fee, .ref y_goesTo, .ref y_priceWas, .ref y_isKept, .ref y_kept, .ref y_trace, .int m_traced])), (y_city, .inl (cI, 192, .inl cy))] H := hP
  have hD : va_D A [(y, .inr (9, [.int m_thrown, .int m_status, .ref y_lane, .ref y_many, .ref y_item, .ref y_city, .ref y_fresh, .int m_isThere, .ref y_tape, .int m_taped, .int m_latest, .int m_length, .int m_cursor, .int m_token, .int m_start, .int m_till, .int m_fault, .int m_faultAt, .int m_seen, .int 0, .ref y_cost, .ref y_away, .ref y_fee, .ref y_goesTo, .ref y_priceWas, .ref y_isKept, .ref y_kept, .ref y_trace, .int m_traced])), (y_city, .inl (cI, 192, .inl cy))] := hD
  refine lv_aload_n S.1 S.2.1 dX9_lookFrom_5 rfl (lv_at hl 0 rfl) ?_
  refine lv_aload_n S.1 S.2.1 dX9_lookFrom_6 rfl (lv_at hl 0 rfl) ?_
  refine lv_iload_n S.1 S.2.1 dX9_lookFrom_7 rfl (lv_at hl 1 rfl) ?_
  refine lv_iload_n S.1 S.2.1 dX9_lookFrom_8 rfl (lv_at hl 2 rfl) ?_
  refine b_ai (wr := []) (b_runV (q0 := 0) (ci := 9) (As := [.int k, .int wy]) (s_X9_firstShut l D cI cZ cC cS sq H.size y y_city k wy m_thrown m_status y_lane y_many y_item y_fresh m_isThere y_tape m_taped m_latest m_length m_cursor m_token m_start m_till m_fault m_faultAt m_seen (0) y_cost y_away y_fee y_goesTo y_priceWas y_isKept y_kept y_trace m_traced cy (by first | with_reducible assumption | assumption | omega | decide | (rw [show Int32.toInt 0 = 0 from rfl]; omega)) (by first | with_reducible assumption | (and_intros <;> first | with_reducible assumption | (intros; refine Int.le_antisymm ?_ ?_ <;> omega) | omega) | assumption | decide | (rw [show Int32.toInt 0 = 0 from rfl]; omega)) (by first | with_reducible assumption | (and_intros <;> first | with_reducible assumption | (intros; refine Int.le_antisymm ?_ ?_ <;> omega) | omega) | assumption | decide | (rw [show Int32.toInt 0 = 0 from rfl]; omega))) S gX9_lookFrom_X9_firstShut rfl hdV_X9_firstShut ⟨Nat.le_of_ble_eq_true rfl, Nat.le_of_ble_eq_true rfl⟩ ⟨Nat.le_of_ble_eq_true rfl, Nat.le_of_ble_eq_true rfl⟩ hK hT hS hA hP hD rfl rfl [0, 1] rfl (by decide) rfl hl.1 rfl (Nat.le_of_ble_eq_true rfl) dX9_lookFrom_9) hP hD hS hA [0, 1] [] rfl rfl (by decide) (by decide) (fun r_1 w_2 H locs hw_3 hP hD hS => ?_)
  obtain ⟨hf_4, rfl⟩ := hw_3
  have hP : va_P D vwCl [(y, .inr (9, [.int m_thrown, .int m_status, .ref y_lane, .ref y_many, .ref y_item, .ref y_city, .ref y_fresh, .int m_isThere, .ref y_tape, .int m_taped, .int m_latest, .int m_length, .int m_cursor, .int m_token, .int m_start, .int m_till, .int m_fault, .int m_faultAt, .int m_seen, .int 0, .ref y_cost, .ref y_away, .ref y_fee, .ref y_goesTo, .ref y_priceWas, .ref y_isKept, .ref y_kept, .ref y_trace, .int m_traced])), (y_city, .inl (cI, 192, .inl cy))] H := hP
  have hD : va_D A [(y, .inr (9, [.int m_thrown, .int m_status, .ref y_lane, .ref y_many, .ref y_item, .ref y_city, .ref y_fresh, .int m_isThere, .ref y_tape, .int m_taped, .int m_latest, .int m_length, .int m_cursor, .int m_token, .int m_start, .int m_till, .int m_fault, .int m_faultAt, .int m_seen, .int 0, .ref y_cost, .ref y_away, .ref y_fee, .ref y_goesTo, .ref y_priceWas, .ref y_isKept, .ref y_kept, .ref y_trace, .int m_traced])), (y_city, .inl (cI, 192, .inl cy))] := hD
  refine b_put (v := .int r_1) S iX9 tyX9 tyX9_ok nmX9 hK hP hD hS 0 rfl rfl 18 (by decide) (by decide +kernel) rfl rfl rfl (Nat.le_of_ble_eq_true rfl) dX9_lookFrom_12 (fun H locs hP hD hS => ?_)
  have hP : va_P D vwCl [(y, .inr (9, [.int m_thrown, .int m_status, .ref y_lane, .ref y_many, .ref y_item, .ref y_city, .ref y_fresh, .int m_isThere, .ref y_tape, .int m_taped, .int m_latest, .int m_length, .int m_cursor, .int m_token, .int m_start, .int m_till, .int m_fault, .int m_faultAt, .int r_1, .int 0, .ref y_cost, .ref y_away, .ref y_fee, .ref y_goesTo, .ref y_priceWas, .ref y_isKept, .ref y_kept, .ref y_trace, .int m_traced])), (y_city, .inl (cI, 192, .inl cy))] H := hP
  have hD : va_D A [(y, .inr (9, [.int m_thrown, .int m_status, .ref y_lane, .ref y_many, .ref y_item, .ref y_city, .ref y_fresh, .int m_isThere, .ref y_tape, .int m_taped, .int m_latest, .int m_length, .int m_cursor, .int m_token, .int m_start, .int m_till, .int m_fault, .int m_faultAt, .int r_1, .int 0, .ref y_cost, .ref y_away, .ref y_fee, .ref y_goesTo, .ref y_priceWas, .ref y_isKept, .ref y_kept, .ref y_trace, .int m_traced])), (y_city, .inl (cI, 192, .inl cy))] := hD
  refine lv_aload_n S.1 S.2.1 dX9_lookFrom_15 rfl (lv_at hl 0 rfl) ?_
  refine b_get (v := .int r_1) S iX9 hK hP 0 rfl rfl 18 (by decide) (by decide +kernel) rfl dX9_lookFrom_16 ?_
  refine lv_if_lt (tgt := 89) S.1 S.2.1 dX9_lookFrom_19 (by decide) (fun c_5 => ?_) (fun c_5 => ?_)
  · rw [lt2 (a := r_1) (b := 0) (A := r_1.toInt) (B := 0) rfl rfl] at c_5
    have lq0 : Int32.toInt (0) = 0 := by decide
    exact b_vret S.1 S.2.1 X.2.1 X.2.2.1 hP hD hS ⟨r_1, (0), (by first | with_reducible assumption | (and_intros <;> first | with_reducible assumption | (intros; refine Int.le_antisymm ?_ ?_ <;> omega) | omega) | assumption | decide | (rw [show Int32.toInt 0 = 0 from rfl]; omega)), rfl⟩ dX9_lookFrom_89
  · rw [lt2 (a := r_1) (b := 0) (A := r_1.toInt) (B := 0) rfl rfl] at c_5
    refine lv_aload_n S.1 S.2.1 dX9_lookFrom_22 rfl (lv_at hl 0 rfl) ?_
    refine b_get (v := .ref y_city) S iX9 hK hP 0 rfl rfl 5 (by decide) (by decide +kernel) rfl dX9_lookFrom_23 ?_
    refine lv_iconst (v := (4)) S.1 S.2.1 dX9_lookFrom_26 (by decide) ?_
    refine lv_aload_n S.1 S.2.1 dX9_lookFrom_27 rfl (lv_at hl 0 rfl) ?_
    refine b_get (v := .int r_1) S iX9 hK hP 0 rfl rfl 18 (by decide) (by decide +kernel) rfl dX9_lookFrom_28 ?_
    refine lv_iadd S.1 S.2.1 dX9_lookFrom_31 ?_
    refine lv_topi (fun x_6 ex_6 => ?_)
    have tx_6 : x_6.toInt = 4 + (r_1.toInt) := addI (A := 4) (B := r_1.toInt) ex_6 rfl rfl (by  omega) (by  omega)
    have hin_7 : vp_in x_6 192 := (in_of (n := 192) (by  omega) (by  omega))
    refine va_iald S.1 S.2.1 hK.1 hP 1 0 rfl rfl hin_7 dX9_lookFrom_32 ?_
    refine lv_topi (fun x_8 ex_8 => ?_)
    have tx_8 := cyg_A (x := x_8) (show prd cyK 192 cy by assumption) (by first | (refine Int.le_antisymm ?_ ?_ <;> omega) | omega) ex_8
    refine lv_iconst (v := (-1)) S.1 S.2.1 dX9_lookFrom_33 (by decide) ?_
    refine lv_icmp_ne (tgt := 89) S.1 S.2.1 dX9_lookFrom_34 (by decide) (fun c_9 => ?_) (fun c_9 => ?_)
    · rw [eq2 (a := x_8) (b := (-1)) (A := x_8.toInt) (B := -1) rfl rfl] at c_9
      have lq0 : Int32.toInt (0) = 0 := by decide
      exact b_vret S.1 S.2.1 X.2.1 X.2.2.1 hP hD hS ⟨r_1, (0), (by first | with_reducible assumption | (and_intros <;> first | with_reducible assumption | (intros; refine Int.le_antisymm ?_ ?_ <;> omega) | omega) | assumption | decide | (rw [show Int32.toInt 0 = 0 from rfl]; omega)), rfl⟩ dX9_lookFrom_89
    · rw [eq2 (a := x_8) (b := (-1)) (A := x_8.toInt) (B := -1) rfl rfl] at c_9
      refine lv_aload_n S.1 S.2.1 dX9_lookFrom_37 rfl (lv_at hl 0 rfl) ?_
      refine lv_iconst (v := (1)) S.1 S.2.1 dX9_lookFrom_38 (by decide) ?_
      refine b_put (v := .int 1) S iX9 tyX9 tyX9_ok nmX9 hK hP hD hS 0 rfl rfl 19 (by decide) (by decide +kernel) rfl rfl rfl (Nat.le_of_ble_eq_true rfl) dX9_lookFrom_39 (fun H locs hP hD hS => ?_)
      have hP : va_P D vwCl [(y, .inr (9, [.int m_thrown, .int m_status, .ref y_lane, .ref y_many, .ref y_item, .ref y_city, .ref y_fresh, .int m_isThere, .ref y_tape, .int m_taped, .int m_latest, .int m_length, .int m_cursor, .int m_token, .int m_start, .int m_till, .int m_fault, .int m_faultAt, .int r_1, .int 1, .ref y_cost, .ref y_away, .ref y_fee, .ref y_goesTo, .ref y_priceWas, .ref y_isKept, .ref y_kept, .ref y_trace, .int m_traced])), (y_city, .inl (cI, 192, .inl cy))] H := hP
      have hD : va_D A [(y, .inr (9, [.int m_thrown, .int m_status, .ref y_lane, .ref y_many, .ref y_item, .ref y_city, .ref y_fresh, .int m_isThere, .ref y_tape, .int m_taped, .int m_latest, .int m_length, .int m_cursor, .int m_token, .int m_start, .int m_till, .int m_fault, .int m_faultAt, .int r_1, .int 1, .ref y_cost, .ref y_away, .ref y_fee, .ref y_goesTo, .ref y_priceWas, .ref y_isKept, .ref y_kept, .ref y_trace, .int m_traced])), (y_city, .inl (cI, 192, .inl cy))] := hD
      refine lv_aload_n S.1 S.2.1 dX9_lookFrom_42 rfl (lv_at hl 0 rfl) ?_
      refine lv_aload_n S.1 S.2.1 dX9_lookFrom_43 rfl (lv_at hl 0 rfl) ?_
      refine lv_iload_n S.1 S.2.1 dX9_lookFrom_44 rfl (lv_at hl 1 rfl) ?_
      refine lv_iload_n S.1 S.2.1 dX9_lookFrom_45 rfl (lv_at hl 2 rfl) ?_
      refine lv_iconst (v := (4)) S.1 S.2.1 dX9_lookFrom_46 (by decide) ?_
      refine lv_iadd S.1 S.2.1 dX9_lookFrom_47 ?_
      refine lv_topi (fun x_10 ex_10 => ?_)
      have tx_10 : x_10.toInt = wy.toInt + (4) := addI (A := wy.toInt) (B := 4) ex_10 rfl rfl (by  omega) (by  omega)
      refine lv_bipush (v := (8)) S.1 S.2.1 dX9_lookFrom_48 (by decide) ?_
      refine lv_irem S.1 S.2.1 dX9_lookFrom_50 (by decide) ?_
      refine lv_topi (fun x_11 ex_11 => ?_)
      have tx_11 : x_11.toInt = x_10.toInt % 8 := remI (A := x_10.toInt) (B := 8) ex_11 rfl rfl (by  omega) (by decide)
      refine b_ai (wr := []) (b_runV (q0 := 0) (ci := 9) (As := [.int k, .int x_11]) (s_X9_firstShut l D cI cZ cC cS sq H.size y y_city k x_11 m_thrown m_status y_lane y_many y_item y_fresh m_isThere y_tape m_taped m_latest m_length m_cursor m_token m_start m_till m_fault m_faultAt r_1 (1) y_cost y_away y_fee y_goesTo y_priceWas y_isKept y_kept y_trace m_traced cy (by first | with_reducible assumption | assumption | omega | decide | (rw [show Int32.toInt 0 = 0 from rfl]; omega)) (by first | with_reducible assumption | (and_intros <;> first | with_reducible assumption | (intros; refine Int.le_antisymm ?_ ?_ <;> omega) | omega) | assumption | decide | (rw [show Int32.toInt 0 = 0 from rfl]; omega)) (by first | with_reducible assumption | (and_intros <;> first | with_reducible assumption | (intros; refine Int.le_antisymm ?_ ?_ <;> omega) | omega) | assumption | decide | (rw [show Int32.toInt 0 = 0 from rfl]; omega))) S gX9_lookFrom_X9_firstShut rfl hdV_X9_firstShut ⟨Nat.le_of_ble_eq_true rfl, Nat.le_of_ble_eq_true rfl⟩ ⟨Nat.le_of_ble_eq_true rfl, Nat.le_of_ble_eq_true rfl⟩ hK hT hS hA hP hD rfl rfl [0, 1] rfl (by decide) rfl hl.1 rfl (Nat.le_of_ble_eq_true rfl) dX9_lookFrom_51) hP hD hS hA [0, 1] [] rfl rfl (by decide) (by decide) (fun r_12 w_13 H locs hw_14 hP hD hS => ?_)
      obtain ⟨hf_15, rfl⟩ := hw_14
      have hP : va_P D vwCl [(y, .inr (9, [.int m_thrown, .int m_status, .ref y_lane, .ref y_many, .ref y_item, .ref y_city, .ref y_fresh, .int m_isThere, .ref y_tape, .int m_taped, .int m_latest, .int m_length, .int m_cursor, .int m_token, .int m_start, .int m_till, .int m_fault, .int m_faultAt, .int r_1, .int 1, .ref y_cost, .ref y_away, .ref y_fee, .ref y_goesTo, .ref y_priceWas, .ref y_isKept, .ref y_kept, .ref y_trace, .int m_traced])), (y_city, .inl (cI, 192, .inl cy))] H := hP
      have hD : va_D A [(y, .inr (9, [.int m_thrown, .int m_status, .ref y_lane, .ref y_many, .ref y_item, .ref y_city, .ref y_fresh, .int m_isThere, .ref y_tape, .int m_taped, .int m_latest, .int m_length, .int m_cursor, .int m_token, .int m_start, .int m_till, .int m_fault, .int m_faultAt, .int r_1, .int 1, .ref y_cost, .ref y_away, .ref y_fee, .ref y_goesTo, .ref y_priceWas, .ref y_isKept, .ref y_kept, .ref y_trace, .int m_traced])), (y_city, .inl (cI, 192, .inl cy))] := hD
      refine b_put (v := .int r_12) S iX9 tyX9 tyX9_ok nmX9 hK hP hD hS 0 rfl rfl 18 (by decide) (by decide +kernel) rfl rfl rfl (Nat.le_of_ble_eq_true rfl) dX9_lookFrom_54 (fun H locs hP hD hS => ?_)
      have hP : va_P D vwCl [(y, .inr (9, [.int m_thrown, .int m_status, .ref y_lane, .ref y_many, .ref y_item, .ref y_city, .ref y_fresh, .int m_isThere, .ref y_tape, .int m_taped, .int m_latest, .int m_length, .int m_cursor, .int m_token, .int m_start, .int m_till, .int m_fault, .int m_faultAt, .int r_12, .int 1, .ref y_cost, .ref y_away, .ref y_fee, .ref y_goesTo, .ref y_priceWas, .ref y_isKept, .ref y_kept, .ref y_trace, .int m_traced])), (y_city, .inl (cI, 192, .inl cy))] H := hP
      have hD : va_D A [(y, .inr (9, [.int m_thrown, .int m_status, .ref y_lane, .ref y_many, .ref y_item, .ref y_city, .ref y_fresh, .int m_isThere, .ref y_tape, .int m_taped, .int m_latest, .int m_length, .int m_cursor, .int m_token, .int m_start, .int m_till, .int m_fault, .int m_faultAt, .int r_12, .int 1, .ref y_cost, .ref y_away, .ref y_fee, .ref y_goesTo, .ref y_priceWas, .ref y_isKept, .ref y_kept, .ref y_trace, .int m_traced])), (y_city, .inl (cI, 192, .inl cy))] := hD
      refine lv_aload_n S.1 S.2.1 dX9_lookFrom_57 rfl (lv_at hl 0 rfl) ?_
      refine b_get (v := .int r_12) S iX9 hK hP 0 rfl rfl 18 (by decide) (by decide +kernel) rfl dX9_lookFrom_58 ?_
      refine lv_if_lt (tgt := 89) S.1 S.2.1 dX9_lookFrom_61 (by decide) (fun c_16 => ?_) (fun c_16 => ?_)
      · rw [lt2 (a := r_12) (b := 0) (A := r_12.toInt) (B := 0) rfl rfl] at c_16
        have lq1 : Int32.toInt (1) = 1 := by decide
        exact b_vret S.1 S.2.1 X.2.1 X.2.2.1 hP hD hS ⟨r_12, (1), (by first | with_reducible assumption | (and_intros <;> first | with_reducible assumption | (intros; refine Int.le_antisymm ?_ ?_ <;> omega) | omega) | assumption | decide | (rw [show Int32.toInt 0 = 0 from rfl]; omega)), rfl⟩ dX9_lookFrom_89
      · rw [lt2 (a := r_12) (b := 0) (A := r_12.toInt) (B := 0) rfl rfl] at c_16
        refine lv_aload_n S.1 S.2.1 dX9_lookFrom_64 rfl (lv_at hl 0 rfl) ?_
        refine b_get (v := .ref y_city) S iX9 hK hP 0 rfl rfl 5 (by decide) (by decide +kernel) rfl dX9_lookFrom_65 ?_
        refine lv_iconst (v := (4)) S.1 S.2.1 dX9_lookFrom_68 (by decide) ?_
        refine lv_aload_n S.1 S.2.1 dX9_lookFrom_69 rfl (lv_at hl 0 rfl) ?_
        refine b_get (v := .int r_12) S iX9 hK hP 0 rfl rfl 18 (by decide) (by decide +kernel) rfl dX9_lookFrom_70 ?_
        refine lv_iadd S.1 S.2.1 dX9_lookFrom_73 ?_
        refine lv_topi (fun x_17 ex_17 => ?_)
        have tx_17 : x_17.toInt = 4 + (r_12.toInt) := addI (A := 4) (B := r_12.toInt) ex_17 rfl rfl (by  omega) (by  omega)
        have hin_18 : vp_in x_17 192 := (in_of (n := 192) (by  omega) (by  omega))
        refine va_iald S.1 S.2.1 hK.1 hP 1 0 rfl rfl hin_18 dX9_lookFrom_74 ?_
        refine lv_topi (fun x_19 ex_19 => ?_)
        have tx_19 := cyg_A (x := x_19) (show prd cyK 192 cy by assumption) (by first | (refine Int.le_antisymm ?_ ?_ <;> omega) | omega) ex_19
        refine lv_iconst (v := (-1)) S.1 S.2.1 dX9_lookFrom_75 (by decide) ?_
        refine lv_icmp_ne (tgt := 89) S.1 S.2.1 dX9_lookFrom_76 (by decide) (fun c_20 => ?_) (fun c_20 => ?_)
        · rw [eq2 (a := x_19) (b := (-1)) (A := x_19.toInt) (B := -1) rfl rfl] at c_20
          have lq1 : Int32.toInt (1) = 1 := by decide
          exact b_vret S.1 S.2.1 X.2.1 X.2.2.1 hP hD hS ⟨r_12, (1), (by first | with_reducible assumption | (and_intros <;> first | with_reducible assumption | (intros; refine Int.le_antisymm ?_ ?_ <;> omega) | omega) | assumption | decide | (rw [show Int32.toInt 0 = 0 from rfl]; omega)), rfl⟩ dX9_lookFrom_89
        · rw [eq2 (a := x_19) (b := (-1)) (A := x_19.toInt) (B := -1) rfl rfl] at c_20
          refine lv_aload_n S.1 S.2.1 dX9_lookFrom_79 rfl (lv_at hl 0 rfl) ?_
          refine lv_iconst (v := (2)) S.1 S.2.1 dX9_lookFrom_80 (by decide) ?_
          refine b_put (v := .int 2) S iX9 tyX9 tyX9_ok nmX9 hK hP hD hS 0 rfl rfl 19 (by decide) (by decide +kernel) rfl rfl rfl (Nat.le_of_ble_eq_true rfl) dX9_lookFrom_81 (fun H locs hP hD hS => ?_)
          have hP : va_P D vwCl [(y, .inr (9, [.int m_thrown, .int m_status, .ref y_lane, .ref y_many, .ref y_item, .ref y_city, .ref y_fresh, .int m_isThere, .ref y_tape, .int m_taped, .int m_latest, .int m_length, .int m_cursor, .int m_token, .int m_start, .int m_till, .int m_fault, .int m_faultAt, .int r_12, .int 2, .ref y_cost, .ref y_away, .ref y_fee, .ref y_goesTo, .ref y_priceWas, .ref y_isKept, .ref y_kept, .ref y_trace, .int m_traced])), (y_city, .inl (cI, 192, .inl cy))] H := hP
          have hD : va_D A [(y, .inr (9, [.int m_thrown, .int m_status, .ref y_lane, .ref y_many, .ref y_item, .ref y_city, .ref y_fresh, .int m_isThere, .ref y_tape, .int m_taped, .int m_latest, .int m_length, .int m_cursor, .int m_token, .int m_start, .int m_till, .int m_fault, .int m_faultAt, .int r_12, .int 2, .ref y_cost, .ref y_away, .ref y_fee, .ref y_goesTo, .ref y_priceWas, .ref y_isKept, .ref y_kept, .ref y_trace, .int m_traced])), (y_city, .inl (cI, 192, .inl cy))] := hD
          refine lv_aload_n S.1 S.2.1 dX9_lookFrom_84 rfl (lv_at hl 0 rfl) ?_
          refine lv_iconst (v := (-1)) S.1 S.2.1 dX9_lookFrom_85 (by decide) ?_
          refine b_put (v := .int (-1)) S iX9 tyX9 tyX9_ok nmX9 hK hP hD hS 0 rfl rfl 18 (by decide) (by decide +kernel) rfl rfl rfl (Nat.le_of_ble_eq_true rfl) dX9_lookFrom_86 (fun H locs hP hD hS => ?_)
          have hP : va_P D vwCl [(y, .inr (9, [.int m_thrown, .int m_status, .ref y_lane, .ref y_many, .ref y_item, .ref y_city, .ref y_fresh, .int m_isThere, .ref y_tape, .int m_taped, .int m_latest, .int m_length, .int m_cursor, .int m_token, .int m_start, .int m_till, .int m_fault, .int m_faultAt, .int (-1), .int 2, .ref y_cost, .ref y_away, .ref y_fee, .ref y_goesTo, .ref y_priceWas, .ref y_isKept, .ref y_kept, .ref y_trace, .int m_traced])), (y_city, .inl (cI, 192, .inl cy))] H := hP
          have hD : va_D A [(y, .inr (9, [.int m_thrown, .int m_status, .ref y_lane, .ref y_many, .ref y_item, .ref y_city, .ref y_fresh, .int m_isThere, .ref y_tape, .int m_taped, .int m_latest, .int m_length, .int m_cursor, .int m_token, .int m_start, .int m_till, .int m_fault, .int m_faultAt, .int (-1), .int 2, .ref y_cost, .ref y_away, .ref y_fee, .ref y_goesTo, .ref y_priceWas, .ref y_isKept, .ref y_kept, .ref y_trace, .int m_traced])), (y_city, .inl (cI, 192, .inl cy))] := hD
          have lqm1 : Int32.toInt (-1) = -1 := by decide
          have lq2 : Int32.toInt (2) = 2 := by decide
          exact b_vret S.1 S.2.1 X.2.1 X.2.2.1 hP hD hS ⟨(-1), (2), (by first | with_reducible assumption | (and_intros <;> first | with_reducible assumption | (intros; refine Int.le_antisymm ?_ ?_ <;> omega) | omega) | assumption | decide | (rw [show Int32.toInt 0 = 0 from rfl]; omega)), rfl⟩ dX9_lookFrom_89
set_option maxHeartbeats 4000000 in
set_option maxRecDepth 100000 in
theorem s_X9_ownerSeen (l : Launch) (D : va_G) (cI cZ cC cS : ClassId) (sq : Nat → Nat) (sz : Nat) (y : Nat) (y_city : Nat) (m_thrown : Int32) (m_status : Int32) (y_lane : Nat) (y_many : Nat) (y_item : Nat) (y_fresh : Nat) (m_isThere : Int32) (y_tape : Nat) (m_taped : Int32) (m_latest : Int32) (m_length : Int32) (m_cursor : Int32) (m_token : Int32) (m_start : Int32) (m_till : Int32) (m_fault : Int32) (m_faultAt : Int32) (m_seen : Int32) (m_mirrors : Int32) (y_cost : Nat) (y_away : Nat) (y_fee : Nat) (y_goesTo : Nat) (y_priceWas : Nat) (y_isKept : Nat) (y_kept : Nat) (y_trace : Nat) (m_traced : Int32) (cy : Nat → Int32) (hpd_cy : prd cyK 192 cy) (hsm : -1 ≤ m_seen.toInt ∧ m_seen.toInt < 80 ∧ 0 ≤ m_mirrors.toInt ∧ m_mirrors.toInt ≤ 2) : mI l yX9_ownerSeen wsX9_ownerSeen 0 0 D (tyW cI cZ cC cS) sq [(y, .inr (9, [.int m_thrown, .int m_status, .ref y_lane, .ref y_many, .ref y_item, .ref y_city, .ref y_fresh, .int m_isThere, .ref y_tape, .int m_taped, .int m_latest, .int m_length, .int m_cursor, .int m_token, .int m_start, .int m_till, .int m_fault, .int m_faultAt, .int m_seen, .int m_mirrors, .ref y_cost, .ref y_away, .ref y_fee, .ref y_goesTo, .ref y_priceWas, .ref y_isKept, .ref y_kept, .ref y_trace, .int m_traced])), (y_city, .inl (cI, 192, .inl cy))] sz [.ref y] (fun r w => ((-1 ≤ r.toInt ∧ r.toInt ≤ 5) ∧ w = [(y, .inr (9, [.int m_thrown, .int m_status, .ref y_lane, .ref y_many, .ref y_item, .ref y_city, .ref y_fresh, .int m_isThere, .ref y_tape, .int m_taped, .int m_latest, .int m_length, .int m_cursor, .int m_token, .int m_start, .int m_till, .int m_fault, .int m_faultAt, .int m_seen, .int m_mirrors, .ref y_cost, .ref y_away, .ref y_fee, .ref y_goesTo, .ref y_priceWas, .ref y_isKept, .ref y_kept, .ref y_trace, .int m_traced])), (y_city, .inl (cI, 192, .inl cy))])) := by
  refine b_metI (cc := cX9_ownerSeen) (maxL := 1) (ret := (some .int)) (by decide) rfl (Nat.le_of_ble_eq_true rfl) ?_
  intro p e s m below meth c ls A H X hsz hP hK hT hD hA hS hl
  have S : CallFix p m c cX9_ownerSeen 1 s ([.ref y] : List Value).toArray wsX9_ownerSeen RX9 := X.1
  have hl : lv_has ls 1 [(0, .ref y)] := hl
  have iX9 := jX9_ownerSeen_X9
  refine lv_aload_n S.1 S.2.1 dX9_ownerSeen_0 rfl (lv_at hl 0 rfl) ?_
  refine b_get (v := .int m_seen) S iX9 hK hP 0 rfl rfl 18 (by decide) (by decide +kernel) rfl dX9_ownerSeen_1 ?_
  refine lv_if_lt (tgt := 35) S.1 S.2.1 dX9_ownerSeen_4 (by decide) (fun c_1 => ?_) (fun c_1 => ?_)
  · rw [lt2 (a := m_seen) (b := 0) (A := m_seen.toInt) (B := 0) rfl rfl] at c_1
    refine lv_iconst (v := (-1)) S.1 S.2.1 dX9_ownerSeen_35 (by decide) ?_
    have lqm1 : Int32.toInt (-1) = -1 := by decide
    exact b_iret S.1 S.2.1 X.2.1 X.2.2.1 hP hD hS ⟨(by first | with_reducible assumption | (and_intros <;> first | with_reducible assumption | (intros; refine Int.le_antisymm ?_ ?_ <;> omega) | omega) | assumption | decide | (rw [show Int32.toInt 0 = 0 from rfl]; omega)), rfl⟩ dX9_ownerSeen_36
  · rw [lt2 (a := m_seen) (b := 0) (A := m_seen.toInt) (B := 0) rfl rfl] at c_1
    refine lv_aload_n S.1 S.2.1 dX9_ownerSeen_7 rfl (lv_at hl 0 rfl) ?_
    refine b_get (v := .ref y_city) S iX9 hK hP 0 rfl rfl 5 (by decide) (by decide +kernel) rfl dX9_ownerSeen_8 ?_
    refine lv_iconst (v := (4)) S.1 S.2.1 dX9_ownerSeen_11 (by decide) ?_
    refine lv_aload_n S.1 S.2.1 dX9_ownerSeen_12 rfl (lv_at hl 0 rfl) ?_
    refine b_get (v := .int m_seen) S iX9 hK hP 0 rfl rfl 18 (by decide) (by decide +kernel) rfl dX9_ownerSeen_13 ?_
    refine lv_iadd S.1 S.2.1 dX9_ownerSeen_16 ?_
    refine lv_topi (fun x_2 ex_2 => ?_)
    have tx_2 : x_2.toInt = 4 + (m_seen.toInt) := addI (A := 4) (B := m_seen.toInt) ex_2 rfl rfl (by  omega) (by  omega)
    have hin_3 : vp_in x_2 192 := (in_of (n := 192) (by  omega) (by  omega))
    refine va_iald S.1 S.2.1 hK.1 hP 1 0 rfl rfl hin_3 dX9_ownerSeen_17 ?_
    refine lv_topi (fun x_4 ex_4 => ?_)
    have tx_4 := cyg_A (x := x_4) (show prd cyK 192 cy by assumption) (by first | (refine Int.le_antisymm ?_ ?_ <;> omega) | omega) ex_4
    refine lv_if_lt (tgt := 35) S.1 S.2.1 dX9_ownerSeen_18 (by decide) (fun c_5 => ?_) (fun c_5 => ?_)
    · rw [lt2 (a := x_4) (b := 0) (A := x_4.toInt) (B := 0) rfl rfl] at c_5
      refine lv_iconst (v := (-1)) S.1 S.2.1 dX9_ownerSeen_35 (by decide) ?_
      have lqm1 : Int32.toInt (-1) = -1 := by decide
      exact b_iret S.1 S.2.1 X.2.1 X.2.2.1 hP hD hS ⟨(by first | with_reducible assumption | (and_intros <;> first | with_reducible assumption | (intros; refine Int.le_antisymm ?_ ?_ <;> omega) | omega) | assumption | decide | (rw [show Int32.toInt 0 = 0 from rfl]; omega)), rfl⟩ dX9_ownerSeen_36
    · rw [lt2 (a := x_4) (b := 0) (A := x_4.toInt) (B := 0) rfl rfl] at c_5
      refine lv_aload_n S.1 S.2.1 dX9_ownerSeen_21 rfl (lv_at hl 0 rfl) ?_
      refine b_get (v := .ref y_city) S iX9 hK hP 0 rfl rfl 5 (by decide) (by decide +kernel) rfl dX9_ownerSeen_22 ?_
      refine lv_iconst (v := (4)) S.1 S.2.1 dX9_ownerSeen_25 (by decide) ?_
      refine lv_aload_n S.1 S.2.1 dX9_ownerSeen_26 rfl (lv_at hl 0 rfl) ?_
      refine b_get (v := .int m_seen) S iX9 hK hP 0 rfl rfl 18 (by decide) (by decide +kernel) rfl dX9_ownerSeen_27 ?_
      refine lv_iadd S.1 S.2.1 dX9_ownerSeen_30 ?_
      refine lv_topi (fun x_6 ex_6 => ?_)
      have tx_6 : x_6.toInt = 4 + (m_seen.toInt) := addI (A := 4) (B := m_seen.toInt) ex_6 rfl rfl (by  omega) (by  omega)
      have hin_7 : vp_in x_6 192 := (in_of (n := 192) (by  omega) (by  omega))
      refine va_iald S.1 S.2.1 hK.1 hP 1 0 rfl rfl hin_7 dX9_ownerSeen_31 ?_
      refine lv_topi (fun x_8 ex_8 => ?_)
      have tx_8 := cyg_A (x := x_8) (show prd cyK 192 cy by assumption) (by first | (refine Int.le_antisymm ?_ ?_ <;> omega) | omega) ex_8
      have lx_8_x_4 := ld_eq ex_8 ex_4
      refine lv_goto (tgt := 36) S.1 S.2.1 dX9_ownerSeen_32 (by decide) ?_
      exact b_iret S.1 S.2.1 X.2.1 X.2.2.1 hP hD hS ⟨(by first | with_reducible assumption | (and_intros <;> first | with_reducible assumption | (intros; refine Int.le_antisymm ?_ ?_ <;> omega) | omega) | assumption | decide | (rw [show Int32.toInt 0 = 0 from rfl]; omega)), rfl⟩ dX9_ownerSeen_36
set_option maxHeartbeats 4000000 in
set_option maxRecDepth 100000 in
theorem s_X9_priceSeen (l : Launch) (D : va_G) (cI cZ cC cS : ClassId) (sq : Nat → Nat) (sz : Nat) (y : Nat) (y_city : Nat) (m_thrown : Int32) (m_status : Int32) (y_lane : Nat) (y_many : Nat) (y_item : Nat) (y_fresh : Nat) (m_isThere : Int32) (y_tape : Nat) (m_taped : Int32) (m_latest : Int32) (m_length : Int32) (m_cursor : Int32) (m_token : Int32) (m_start : Int32) (m_till : Int32) (m_fault : Int32) (m_faultAt : Int32) (m_seen : Int32) (m_mirrors : Int32) (y_cost : Nat) (y_away : Nat) (y_fee : Nat) (y_goesTo : Nat) (y_priceWas : Nat) (y_isKept : Nat) (y_kept : Nat) (y_trace : Nat) (m_traced : Int32) (cy : Nat → Int32) (hpd_cy : prd cyK 192 cy) (hsm : -1 ≤ m_seen.toInt ∧ m_seen.toInt < 80 ∧ 0 ≤ m_mirrors.toInt ∧ m_mirrors.toInt ≤ 2) : mI l yX9_priceSeen wsX9_priceSeen 1 40 D (tyW cI cZ cC cS) sq [(y, .inr (9, [.int m_thrown, .int m_status, .ref y_lane, .ref y_many, .ref y_item, .ref y_city, .ref y_fresh, .int m_isThere, .ref y_tape, .int m_taped, .int m_latest, .int m_length, .int m_cursor, .int m_token, .int m_start, .int m_till, .int m_fault, .int m_faultAt, .int m_seen, .int m_mirrors, .ref y_cost, .ref y_away, .ref y_fee, .ref y_goesTo, .ref y_priceWas, .ref y_isKept, .ref y_kept, .ref y_trace, .int m_traced])), (y_city, .inl (cI, 192, .inl cy))] sz [.ref y] (fun r w => ((0 ≤ r.toInt ∧ r.toInt ≤ 400) ∧ w = [(y, .inr (9, [.int m_thrown, .int m_status, .ref y_lane, .ref y_many, .ref y_item, .ref y_city, .ref y_fresh, .int m_isThere, .ref y_tape, .int m_taped, .int m_latest, .int m_length, .int m_cursor, .int m_token, .int m_start, .int m_till, .int m_fault, .int m_faultAt, .int m_seen, .int m_mirrors, .ref y_cost, .ref y_away, .ref y_fee, .ref y_goesTo, .ref y_priceWas, .ref y_isKept, .ref y_kept, .ref y_trace, .int m_traced])), (y_city, .inl (cI, 192, .inl cy))])) := by
  refine b_metI (cc := cX9_priceSeen) (maxL := 2) (ret := (some .int)) (by decide) rfl (Nat.le_of_ble_eq_true rfl) ?_
  intro p e s m below meth c ls A H X hsz hP hK hT hD hA hS hl
  have S : CallFix p m c cX9_priceSeen 2 s ([.ref y] : List Value).toArray wsX9_priceSeen RX9 := X.1
  have hl : lv_has ls 2 [(0, .ref y)] := hl
  have iX9 := jX9_priceSeen_X9
  refine lv_aload_n S.1 S.2.1 dX9_priceSeen_0 rfl (lv_at hl 0 rfl) ?_
  refine b_ai (wr := []) (b_runV (q0 := 0) (ci := 9) (As := []) (s_X9_ownerSeen l D cI cZ cC cS sq H.size y y_city m_thrown m_status y_lane y_many y_item y_fresh m_isThere y_tape m_taped m_latest m_length m_cursor m_token m_start m_till m_fault m_faultAt m_seen m_mirrors y_cost y_away y_fee y_goesTo y_priceWas y_isKept y_kept y_trace m_traced cy (by first | with_reducible assumption | assumption | omega | decide | (rw [show Int32.toInt 0 = 0 from rfl]; omega)) (by first | with_reducible assumption | (and_intros <;> first | with_reducible assumption | (intros; refine Int.le_antisymm ?_ ?_ <;> omega) | omega) | assumption | decide | (rw [show Int32.toInt 0 = 0 from rfl]; omega))) S gX9_priceSeen_X9_ownerSeen rfl hdV_X9_ownerSeen ⟨Nat.le_of_ble_eq_true rfl, Nat.le_of_ble_eq_true rfl⟩ ⟨Nat.le_of_ble_eq_true rfl, Nat.le_of_ble_eq_true rfl⟩ hK hT hS hA hP hD rfl rfl [0, 1] rfl (by decide) rfl hl.1 rfl (Nat.le_of_ble_eq_true rfl) dX9_priceSeen_1) hP hD hS hA [0, 1] [] rfl rfl (by decide) (by decide) (fun r_1 w_2 H locs hw_3 hP hD hS => ?_)
  obtain ⟨hf_4, rfl⟩ := hw_3
  have hP : va_P D vwCl [(y, .inr (9, [.int m_thrown, .int m_status, .ref y_lane, .ref y_many, .ref y_item, .ref y_city, .ref y_fresh, .int m_isThere, .ref y_tape, .int m_taped, .int m_latest, .int m_length, .int m_cursor, .int m_token, .int m_start, .int m_till, .int m_fault, .int m_faultAt, .int m_seen, .int m_mirrors, .ref y_cost, .ref y_away, .ref y_fee, .ref y_goesTo, .ref y_priceWas, .ref y_isKept, .ref y_kept, .ref y_trace, .int m_traced])), (y_city, .inl (cI, 192, .inl cy))] H := hP
  have hD : va_D A [(y, .inr (9, [.int m_thrown, .int m_status, .ref y_lane, .ref y_many, .ref y_item, .ref y_city, .ref y_fresh, .int m_isThere, .ref y_tape, .int m_taped, .int m_latest, .int m_length, .int m_cursor, .int m_token, .int m_start, .int m_till, .int m_fault, .int m_faultAt, .int m_seen, .int m_mirrors, .ref y_cost, .ref y_away, .ref y_fee, .ref y_goesTo, .ref y_priceWas, .ref y_isKept, .ref y_kept, .ref y_trace, .int m_traced])), (y_city, .inl (cI, 192, .inl cy))] := hD
  refine lv_istore_n (lv' := [(1, .int r_1), (0, .ref y)]) S.1 S.2.1 dX9_priceSeen_4 rfl hl (by decide) rfl (fun ls hl => ?_)
  refine lv_iload_n S.1 S.2.1 dX9_priceSeen_5 rfl (lv_at hl 0 rfl) ?_
  refine lv_if_ge (tgt := 13) S.1 S.2.1 dX9_priceSeen_6 (by decide) (fun c_5 => ?_) (fun c_5 => ?_)
  · rw [le2 (a := 0) (b := r_1) (A := 0) (B := r_1.toInt) rfl rfl] at c_5
    refine lv_aload_n S.1 S.2.1 dX9_priceSeen_13 rfl (lv_at hl 1 rfl) ?_
    refine b_get (v := .ref y_city) S iX9 hK hP 0 rfl rfl 5 (by decide) (by decide +kernel) rfl dX9_priceSeen_14 ?_
    refine lv_bipush (v := (84)) S.1 S.2.1 dX9_priceSeen_17 (by decide) ?_
    refine lv_iload_n S.1 S.2.1 dX9_priceSeen_19 rfl (lv_at hl 0 rfl) ?_
    refine lv_iadd S.1 S.2.1 dX9_priceSeen_20 ?_
    refine lv_topi (fun x_6 ex_6 => ?_)
    have tx_6 : x_6.toInt = 84 + (r_1.toInt) := addI (A := 84) (B := r_1.toInt) ex_6 rfl rfl (by  omega) (by  omega)
    have hin_7 : vp_in x_6 192 := (in_of (n := 192) (by  omega) (by  omega))
    refine va_iald S.1 S.2.1 hK.1 hP 1 0 rfl rfl hin_7 dX9_priceSeen_21 ?_
    refine lv_topi (fun x_8 ex_8 => ?_)
    have tx_8 := cyg_P (x := x_8) (show prd cyK 192 cy by assumption) (by first | (refine Int.le_antisymm ?_ ?_ <;> omega) | omega) ex_8
    refine lv_aload_n S.1 S.2.1 dX9_priceSeen_22 rfl (lv_at hl 1 rfl) ?_
    refine b_get (v := .int m_mirrors) S iX9 hK hP 0 rfl rfl 19 (by decide) (by decide +kernel) rfl dX9_priceSeen_23 ?_
    refine lv_iconst (v := (1)) S.1 S.2.1 dX9_priceSeen_26 (by decide) ?_
    refine lv_iadd S.1 S.2.1 dX9_priceSeen_27 ?_
    refine lv_topi (fun x_9 ex_9 => ?_)
    have tx_9 : x_9.toInt = m_mirrors.toInt + (1) := addI (A := m_mirrors.toInt) (B := 1) ex_9 rfl rfl (by  omega) (by  omega)
    refine lv_imul S.1 S.2.1 dX9_priceSeen_28 ?_
    refine lv_topi (fun x_10 ex_10 => ?_)
    have tx_10 : 0 ≤ x_10.toInt ∧ x_10.toInt ≤ 400 := mul3 ex_10 (by first | (refine Int.le_antisymm ?_ ?_ <;> omega) | omega) (by first | (refine Int.le_antisymm ?_ ?_ <;> omega) | omega)
    exact b_iret S.1 S.2.1 X.2.1 X.2.2.1 hP hD hS ⟨(by first | with_reducible assumption | (and_intros <;> first | with_reducible assumption | (intros; refine Int.le_antisymm ?_ ?_ <;> omega) | omega) | assumption | decide | (rw [show Int32.toInt 0 = 0 from rfl]; omega)), rfl⟩ dX9_priceSeen_29
  · rw [le2 (a := 0) (b := r_1) (A := 0) (B := r_1.toInt) rfl rfl] at c_5
    refine lv_iconst (v := (0)) S.1 S.2.1 dX9_priceSeen_9 (by decide) ?_
    refine lv_goto (tgt := 29) S.1 S.2.1 dX9_priceSeen_10 (by decide) ?_
    have lq0 : Int32.toInt (0) = 0 := by decide
    exact b_iret S.1 S.2.1 X.2.1 X.2.2.1 hP hD hS ⟨(by first | with_reducible assumption | (and_intros <;> first | with_reducible assumption | (intros; refine Int.le_antisymm ?_ ?_ <;> omega) | omega) | assumption | decide | (rw [show Int32.toInt 0 = 0 from rfl]; omega)), rfl⟩ dX9_priceSeen_29
set_option maxHeartbeats 4000000 in
set_option maxRecDepth 100000 in
theorem s_X9_paysNow (l : Launch) (D : va_G) (cI cZ cC cS : ClassId) (sq : Nat → Nat) (sz : Nat) (y : Nat) (y_city : Nat) (a : Int32) (m_thrown : Int32) (m_status : Int32) (y_lane : Nat) (y_many : Nat) (y_item : Nat) (y_fresh : Nat) (m_isThere : Int32) (y_tape : Nat) (m_taped : Int32) (m_latest : Int32) (m_length : Int32) (m_cursor : Int32) (m_token : Int32) (m_start : Int32) (m_till : Int32) (m_fault : Int32) (m_faultAt : Int32) (m_seen : Int32) (m_mirrors : Int32) (y_cost : Nat) (y_away : Nat) (y_fee : Nat) (y_goesTo : Nat) (y_priceWas : Nat) (y_isKept : Nat) (y_kept : Nat) (y_trace : Nat) (m_traced : Int32) (cy : Nat → Int32) (hpd_cy : prd cyK 192 cy) (ha : 0 ≤ a.toInt ∧ a.toInt < 6) (hsm : -1 ≤ m_seen.toInt ∧ m_seen.toInt < 80 ∧ 0 ≤ m_mirrors.toInt ∧ m_mirrors.toInt ≤ 2) : mI l yX9_paysNow wsX9_paysNow 2 80 D (tyW cI cZ cC cS) sq [(y, .inr (9, [.int m_thrown, .int m_status, .ref y_lane, .ref y_many, .ref y_item, .ref y_city, .ref y_fresh, .int m_isThere, .ref y_tape, .int m_taped, .int m_latest, .int m_length, .int m_cursor, .int m_token, .int m_start, .int m_till, .int m_fault, .int m_faultAt, .int m_seen, .int m_mirrors, .ref y_cost, .ref y_away, .ref y_fee, .ref y_goesTo, .ref y_priceWas, .ref y_isKept, .ref y_kept, .ref y_trace, .int m_traced])), (y_city, .inl (cI, 192, .inl cy))] sz [.ref y, .int a] (fun r w => ((0 ≤ r.toInt ∧ r.toInt ≤ 400) ∧ w = [(y, .inr (9, [.int m_thrown, .int m_status, .ref y_lane, .ref y_many, .ref y_item, .ref y_city, .ref y_fresh, .int m_isThere, .ref y_tape, .int m_taped, .int m_latest, .int m_length, .int m_cursor, .int m_token, .int m_start, .int m_till, .int m_fault, .int m_faultAt, .int m_seen, .int m_mirrors, .ref y_cost, .ref y_away, .ref y_fee, .ref y_goesTo, .ref y_priceWas, .ref y_isKept, .ref y_kept, .ref y_trace, .int m_traced])), (y_city, .inl (cI, 192, .inl cy))])) := by
  refine b_metI (cc := cX9_paysNow) (maxL := 3) (ret := (some .int)) (by decide) rfl (Nat.le_of_ble_eq_true rfl) ?_
  intro p e s m below meth c ls A H X hsz hP hK hT hD hA hS hl
  have S : CallFix p m c cX9_paysNow 3 s ([.ref y, .int a] : List Value).toArray wsX9_paysNow RX9 := X.1
  have hl : lv_has ls 3 [(0, .ref y), (1, .int a)] := hl
  have iX9 := jX9_paysNow_X9
  refine lv_aload_n S.1 S.2.1 dX9_paysNow_0 rfl (lv_at hl 0 rfl) ?_
  refine b_ai (wr := []) (b_runV (q0 := 0) (ci := 9) (As := []) (s_X9_ownerSeen l D cI cZ cC cS sq H.size y y_city m_thrown m_status y_lane y_many y_item y_fresh m_isThere y_tape m_taped m_latest m_length m_cursor m_token m_start m_till m_fault m_faultAt m_seen m_mirrors y_cost y_away y_fee y_goesTo y_priceWas y_isKept y_kept y_trace m_traced cy (by first | with_reducible assumption | assumption | omega | decide | (rw [show Int32.toInt 0 = 0 from rfl]; omega)) (by first | with_reducible assumption | (and_intros <;> first | with_reducible assumption | (intros; refine Int.le_antisymm ?_ ?_ <;> omega) | omega) | assumption | decide | (rw [show Int32.toInt 0 = 0 from rfl]; omega))) S gX9_paysNow_X9_ownerSeen rfl hdV_X9_ownerSeen ⟨Nat.le_of_ble_eq_true rfl, Nat.le_of_ble_eq_true rfl⟩ ⟨Nat.le_of_ble_eq_true rfl, Nat.le_of_ble_eq_true rfl⟩ hK hT hS hA hP hD rfl rfl [0, 1] rfl (by decide) rfl hl.1 rfl (Nat.le_of_ble_eq_true rfl) dX9_paysNow_1) hP hD hS hA [0, 1] [] rfl rfl (by decide) (by decide) (fun r_1 w_2 H locs hw_3 hP hD hS => ?_)
  obtain ⟨hf_4, rfl⟩ := hw_3
  have hP : va_P D vwCl [(y, .inr (9, [.int m_thrown, .int m_status, .ref y_lane, .ref y_many, .ref y_item, .ref y_city, .ref y_fresh, .int m_isThere, .ref y_tape, .int m_taped, .int m_latest, .int m_length, .int m_cursor, .int m_token, .int m_start, .int m_till, .int m_fault, .int m_faultAt, .int m_seen, .int m_mirrors, .ref y_cost, .ref y_away, .ref y_fee, .ref y_goesTo, .ref y_priceWas, .ref y_isKept, .ref y_kept, .ref y_trace, .int m_traced])), (y_city, .inl (cI, 192, .inl cy))] H := hP
  have hD : va_D A [(y, .inr (9, [.int m_thrown, .int m_status, .ref y_lane, .ref y_many, .ref y_item, .ref y_city, .ref y_fresh, .int m_isThere, .ref y_tape, .int m_taped, .int m_latest, .int m_length, .int m_cursor, .int m_token, .int m_start, .int m_till, .int m_fault, .int m_faultAt, .int m_seen, .int m_mirrors, .ref y_cost, .ref y_away, .ref y_fee, .ref y_goesTo, .ref y_priceWas, .ref y_isKept, .ref y_kept, .ref y_trace, .int m_traced])), (y_city, .inl (cI, 192, .inl cy))] := hD
  refine lv_istore_n (lv' := [(2, .int r_1), (0, .ref y), (1, .int a)]) S.1 S.2.1 dX9_paysNow_4 rfl hl (by decide) rfl (fun ls hl => ?_)
  refine lv_iload_n S.1 S.2.1 dX9_paysNow_5 rfl (lv_at hl 0 rfl) ?_
  refine lv_if_lt (tgt := 32) S.1 S.2.1 dX9_paysNow_6 (by decide) (fun c_5 => ?_) (fun c_5 => ?_)
  · rw [lt2 (a := r_1) (b := 0) (A := r_1.toInt) (B := 0) rfl rfl] at c_5
    refine lv_iconst (v := (0)) S.1 S.2.1 dX9_paysNow_32 (by decide) ?_
    refine lv_goto (tgt := 40) S.1 S.2.1 dX9_paysNow_33 (by decide) ?_
    have lq0 : Int32.toInt (0) = 0 := by decide
    exact b_iret S.1 S.2.1 X.2.1 X.2.2.1 hP hD hS ⟨(by first | with_reducible assumption | (and_intros <;> first | with_reducible assumption | (intros; refine Int.le_antisymm ?_ ?_ <;> omega) | omega) | assumption | decide | (rw [show Int32.toInt 0 = 0 from rfl]; omega)), rfl⟩ dX9_paysNow_40
  · rw [lt2 (a := r_1) (b := 0) (A := r_1.toInt) (B := 0) rfl rfl] at c_5
    refine lv_aload_n S.1 S.2.1 dX9_paysNow_9 rfl (lv_at hl 1 rfl) ?_
    refine lv_iload_n S.1 S.2.1 dX9_paysNow_10 rfl (lv_at hl 2 rfl) ?_
    refine lv_iconst (v := (2)) S.1 S.2.1 dX9_paysNow_11 (by decide) ?_
    refine b_ai (wr := []) (b_runV (q0 := 0) (ci := 9) (As := [.int a, .int 2]) (s_X9_of l D cI cZ cC cS sq H.size y y_city a (2) m_thrown m_status y_lane y_many y_item y_fresh m_isThere y_tape m_taped m_latest m_length m_cursor m_token m_start m_till m_fault m_faultAt m_seen m_mirrors y_cost y_away y_fee y_goesTo y_priceWas y_isKept y_kept y_trace m_traced cy (by first | with_reducible assumption | assumption | omega | decide | (rw [show Int32.toInt 0 = 0 from rfl]; omega)) (by first | with_reducible assumption | (and_intros <;> first | with_reducible assumption | (intros; refine Int.le_antisymm ?_ ?_ <;> omega) | omega) | assumption | decide | (rw [show Int32.toInt 0 = 0 from rfl]; omega)) (by first | with_reducible assumption | (and_intros <;> first | with_reducible assumption | (intros; refine Int.le_antisymm ?_ ?_ <;> omega) | omega) | assumption | decide | (rw [show Int32.toInt 0 = 0 from rfl]; omega))) S gX9_paysNow_X9_of rfl hdV_X9_of ⟨Nat.le_of_ble_eq_true rfl, Nat.le_of_ble_eq_true rfl⟩ ⟨Nat.le_of_ble_eq_true rfl, Nat.le_of_ble_eq_true rfl⟩ hK hT hS hA hP hD rfl rfl [0, 1] rfl (by decide) rfl hl.1 rfl (Nat.le_of_ble_eq_true rfl) dX9_paysNow_12) hP hD hS hA [0, 1] [] rfl rfl (by decide) (by decide) (fun r_6 w_7 H locs hw_8 hP hD hS => ?_)
    obtain ⟨hf_9, hf_10, rfl⟩ := hw_8
    have hf_9 : (((2) : Int) = 0 ∨ ((2) : Int) = 1) → 0 ≤ r_6.toInt ∧ r_6.toInt < 80 := hf_9
    have hf_10 : r_6 = cy (96 + 4 * a.toInt + ((2) : Int)).toNat := hf_10
    have hP : va_P D vwCl [(y, .inr (9, [.int m_thrown, .int m_status, .ref y_lane, .ref y_many, .ref y_item, .ref y_city, .ref y_fresh, .int m_isThere, .ref y_tape, .int m_taped, .int m_latest, .int m_length, .int m_cursor, .int m_token, .int m_start, .int m_till, .int m_fault, .int m_faultAt, .int m_seen, .int m_mirrors, .ref y_cost, .ref y_away, .ref y_fee, .ref y_goesTo, .ref y_priceWas, .ref y_isKept, .ref y_kept, .ref y_trace, .int m_traced])), (y_city, .inl (cI, 192, .inl cy))] H := hP
    have hD : va_D A [(y, .inr (9, [.int m_thrown, .int m_status, .ref y_lane, .ref y_many, .ref y_item, .ref y_city, .ref y_fresh, .int m_isThere, .ref y_tape, .int m_taped, .int m_latest, .int m_length, .int m_cursor, .int m_token, .int m_start, .int m_till, .int m_fault, .int m_faultAt, .int m_seen, .int m_mirrors, .ref y_cost, .ref y_away, .ref y_fee, .ref y_goesTo, .ref y_priceWas, .ref y_isKept, .ref y_kept, .ref y_trace, .int m_traced])), (y_city, .inl (cI, 192, .inl cy))] := hD
    refine lv_iconst (v := (1)) S.1 S.2.1 dX9_paysNow_15 (by decide) ?_
    refine lv_icmp_ne (tgt := 36) S.1 S.2.1 dX9_paysNow_16 (by decide) (fun c_11 => ?_) (fun c_11 => ?_)
    · rw [eq2 (a := r_6) (b := 1) (A := r_6.toInt) (B := 1) rfl rfl] at c_11
      refine lv_aload_n S.1 S.2.1 dX9_paysNow_36 rfl (lv_at hl 1 rfl) ?_
      refine b_ai (wr := []) (b_runV (q0 := 0) (ci := 9) (As := []) (s_X9_priceSeen l D cI cZ cC cS sq H.size y y_city m_thrown m_status y_lane y_many y_item y_fresh m_isThere y_tape m_taped m_latest m_length m_cursor m_token m_start m_till m_fault m_faultAt m_seen m_mirrors y_cost y_away y_fee y_goesTo y_priceWas y_isKept y_kept y_trace m_traced cy (by first | with_reducible assumption | assumption | omega | decide | (rw [show Int32.toInt 0 = 0 from rfl]; omega)) (by first | with_reducible assumption | (and_intros <;> first | with_reducible assumption | (intros; refine Int.le_antisymm ?_ ?_ <;> omega) | omega) | assumption | decide | (rw [show Int32.toInt 0 = 0 from rfl]; omega))) S gX9_paysNow_X9_priceSeen rfl hdV_X9_priceSeen ⟨Nat.le_of_ble_eq_true rfl, Nat.le_of_ble_eq_true rfl⟩ ⟨Nat.le_of_ble_eq_true rfl, Nat.le_of_ble_eq_true rfl⟩ hK hT hS hA hP hD rfl rfl [0, 1] rfl (by decide) rfl hl.1 rfl (Nat.le_of_ble_eq_true rfl) dX9_paysNow_37) hP hD hS hA [0, 1] [] rfl rfl (by decide) (by decide) (fun r_12 w_13 H locs hw_14 hP hD hS => ?_)
      obtain ⟨hf_15, rfl⟩ := hw_14
      have hP : va_P D vwCl [(y, .inr (9, [.int m_thrown, .int m_status, .ref y_lane, .ref y_many, .ref y_item, .ref y_city, .ref y_fresh, .int m_isThere, .ref y_tape, .int m_taped, .int m_latest, .int m_length, .int m_cursor, .int m_token, .int m_start, .int m_till, .int m_fault, .int m_faultAt, .int m_seen, .int m_mirrors, .ref y_cost, .ref y_away, .ref y_fee, .ref y_goesTo, .ref y_priceWas, .ref y_isKept, .ref y_kept, .ref y_trace, .int m_traced])), (y_city, .inl (cI, 192, .inl cy))] H := hP
      have hD : va_D A [(y, .inr (9, [.int m_thrown, .int m_status, .ref y_lane, .ref y_many, .ref y_item, .ref y_city, .ref y_fresh, .int m_isThere, .ref y_tape, .int m_taped, .int m_latest, .int m_length, .int m_cursor, .int m_token, .int m_start, .int m_till, .int m_fault, .int m_faultAt, .int m_seen, .int m_mirrors, .ref y_cost, .ref y_away, .ref y_fee, .ref y_goesTo, .ref y_priceWas, .ref y_isKept, .ref y_kept, .ref y_trace, .int m_traced])), (y_city, .inl (cI, 192, .inl cy))] := hD
      exact b_iret S.1 S.2.1 X.2.1 X.2.2.1 hP hD hS ⟨(by first | with_reducible assumption | (and_intros <;> first | with_reducible assumption | (intros; refine Int.le_antisymm ?_ ?_ <;> omega) | omega) | assumption | decide | (rw [show Int32.toInt 0 = 0 from rfl]; omega)), rfl⟩ dX9_paysNow_40
    · rw [eq2 (a := r_6) (b := 1) (A := r_6.toInt) (B := 1) rfl rfl] at c_11
      refine lv_aload_n S.1 S.2.1 dX9_paysNow_19 rfl (lv_at hl 1 rfl) ?_
      refine b_get (v := .ref y_city) S iX9 hK hP 0 rfl rfl 5 (by decide) (by decide +kernel) rfl dX9_paysNow_20 ?_
      refine lv_bipush (v := (90)) S.1 S.2.1 dX9_paysNow_23 (by decide) ?_
      refine lv_iload_n S.1 S.2.1 dX9_paysNow_25 rfl (lv_at hl 0 rfl) ?_
      refine lv_iadd S.1 S.2.1 dX9_paysNow_26 ?_
      refine lv_topi (fun x_16 ex_16 => ?_)
      have tx_16 : x_16.toInt = 90 + (r_1.toInt) := addI (A := 90) (B := r_1.toInt) ex_16 rfl rfl (by  omega) (by  omega)
      have hin_17 : vp_in x_16 192 := (in_of (n := 192) (by  omega) (by  omega))
      refine va_iald S.1 S.2.1 hK.1 hP 1 0 rfl rfl hin_17 dX9_paysNow_27 ?_
      refine lv_topi (fun x_18 ex_18 => ?_)
      refine lv_iconst (v := (1)) S.1 S.2.1 dX9_paysNow_28 (by decide) ?_
      refine lv_icmp_ne (tgt := 36) S.1 S.2.1 dX9_paysNow_29 (by decide) (fun c_19 => ?_) (fun c_19 => ?_)
      · rw [eq2 (a := x_18) (b := 1) (A := x_18.toInt) (B := 1) rfl rfl] at c_19
        refine lv_aload_n S.1 S.2.1 dX9_paysNow_36 rfl (lv_at hl 1 rfl) ?_
        refine b_ai (wr := []) (b_runV (q0 := 0) (ci := 9) (As := []) (s_X9_priceSeen l D cI cZ cC cS sq H.size y y_city m_thrown m_status y_lane y_many y_item y_fresh m_isThere y_tape m_taped m_latest m_length m_cursor m_token m_start m_till m_fault m_faultAt m_seen m_mirrors y_cost y_away y_fee y_goesTo y_priceWas y_isKept y_kept y_trace m_traced cy (by first | with_reducible assumption | assumption | omega | decide | (rw [show Int32.toInt 0 = 0 from rfl]; omega)) (by first | with_reducible assumption | (and_intros <;> first | with_reducible assumption | (intros; refine Int.le_antisymm ?_ ?_ <;> omega) | omega) | assumption | decide | (rw [show Int32.toInt 0 = 0 from rfl]; omega))) S gX9_paysNow_X9_priceSeen rfl hdV_X9_priceSeen ⟨Nat.le_of_ble_eq_true rfl, Nat.le_of_ble_eq_true rfl⟩ ⟨Nat.le_of_ble_eq_true rfl, Nat.le_of_ble_eq_true rfl⟩ hK hT hS hA hP hD rfl rfl [0, 1] rfl (by decide) rfl hl.1 rfl (Nat.le_of_ble_eq_true rfl) dX9_paysNow_37) hP hD hS hA [0, 1] [] rfl rfl (by decide) (by decide) (fun r_20 w_21 H locs hw_22 hP hD hS => ?_)
        obtain ⟨hf_23, rfl⟩ := hw_22
        have hP : va_P D vwCl [(y, .inr (9, [.int m_thrown, .int m_status, .ref y_lane, .ref y_many, .ref y_item, .ref y_city, .ref y_fresh, .int m_isThere, .ref y_tape, .int m_taped, .int m_latest, .int m_length, .int m_cursor, .int m_token, .int m_start, .int m_till, .int m_fault, .int m_faultAt, .int m_seen, .int m_mirrors, .ref y_cost, .ref y_away, .ref y_fee, .ref y_goesTo, .ref y_priceWas, .ref y_isKept, .ref y_kept, .ref y_trace, .int m_traced])), (y_city, .inl (cI, 192, .inl cy))] H := hP
        have hD : va_D A [(y, .inr (9, [.int m_thrown, .int m_status, .ref y_lane, .ref y_many, .ref y_item, .ref y_city, .ref y_fresh, .int m_isThere, .ref y_tape, .int m_taped, .int m_latest, .int m_length, .int m_cursor, .int m_token, .int m_start, .int m_till, .int m_fault, .int m_faultAt, .int m_seen, .int m_mirrors, .ref y_cost, .ref y_away, .ref y_fee, .ref y_goesTo, .ref y_priceWas, .ref y_isKept, .ref y_kept, .ref y_trace, .int m_traced])), (y_city, .inl (cI, 192, .inl cy))] := hD
        exact b_iret S.1 S.2.1 X.2.1 X.2.2.1 hP hD hS ⟨(by first | with_reducible assumption | (and_intros <;> first | with_reducible assumption | (intros; refine Int.le_antisymm ?_ ?_ <;> omega) | omega) | assumption | decide | (rw [show Int32.toInt 0 = 0 from rfl]; omega)), rfl⟩ dX9_paysNow_40
      · rw [eq2 (a := x_18) (b := 1) (A := x_18.toInt) (B := 1) rfl rfl] at c_19
        refine lv_iconst (v := (0)) S.1 S.2.1 dX9_paysNow_32 (by decide) ?_
        refine lv_goto (tgt := 40) S.1 S.2.1 dX9_paysNow_33 (by decide) ?_
        have lq0 : Int32.toInt (0) = 0 := by decide
        exact b_iret S.1 S.2.1 X.2.1 X.2.2.1 hP hD hS ⟨(by first | with_reducible assumption | (and_intros <;> first | with_reducible assumption | (intros; refine Int.le_antisymm ?_ ?_ <;> omega) | omega) | assumption | decide | (rw [show Int32.toInt 0 = 0 from rfl]; omega)), rfl⟩ dX9_paysNow_40
set_option maxHeartbeats 4000000 in
set_option maxRecDepth 100000 in
theorem s_X9_paysNow_x (l : Launch) (D : va_G) (cI cZ cC cS : ClassId) (sq : Nat → Nat) (sz : Nat) (y : Nat) (y_city : Nat) (a : Int32) (m_thrown : Int32) (m_status : Int32) (y_lane : Nat) (y_many : Nat) (y_item : Nat) (y_fresh : Nat) (m_isThere : Int32) (y_tape : Nat) (m_taped : Int32) (m_latest : Int32) (m_length : Int32) (m_cursor : Int32) (m_token : Int32) (m_start : Int32) (m_till : Int32) (m_fault : Int32) (m_faultAt : Int32) (m_seen : Int32) (m_mirrors : Int32) (y_cost : Nat) (y_away : Nat) (y_fee : Nat) (y_goesTo : Nat) (y_priceWas : Nat) (y_isKept : Nat) (y_kept : Nat) (y_trace : Nat) (m_traced : Int32) (cy : Nat → Int32) (gg : Nat → Int) (hpd_cy : prd cyK 192 cy) (ha : 0 ≤ a.toInt ∧ a.toInt < 6) (hsm : -1 ≤ m_seen.toInt ∧ m_seen.toInt < 80 ∧ 0 ≤ m_mirrors.toInt ∧ m_mirrors.toInt ≤ 2) (hgy : GY gg cy) (hgb : gB gg) (hsk : m_seen.toInt = -1 ∨ insK gg m_seen.toInt) (hcs : CYs gg cy) (hag : a.toInt < gg 3) (h63 : gg 3 ≤ 6) (hgf : gF gg) : mI l yX9_paysNow wsX9_paysNow 2 80 D (tyW cI cZ cC cS) sq [(y, .inr (9, [.int m_thrown, .int m_status, .ref y_lane, .ref y_many, .ref y_item, .ref y_city, .ref y_fresh, .int m_isThere, .ref y_tape, .int m_taped, .int m_latest, .int m_length, .int m_cursor, .int m_token, .int m_start, .int m_till, .int m_fault, .int m_faultAt, .int m_seen, .int m_mirrors, .ref y_cost, .ref y_away, .ref y_fee, .ref y_goesTo, .ref y_priceWas, .ref y_isKept, .ref y_kept, .ref y_trace, .int m_traced])), (y_city, .inl (cI, 192, .inl cy))] sz [.ref y, .int a] (fun r w => ((0 ≤ r.toInt ∧ r.toInt ≤ 400) ∧ (r.toInt = pyG gg a.toInt (ownG gg m_seen.toInt) m_mirrors.toInt) ∧ w = [(y, .inr (9, [.int m_thrown, .int m_status, .ref y_lane, .ref y_many, .ref y_item, .ref y_city, .ref y_fresh, .int m_isThere, .ref y_tape, .int m_taped, .int m_latest, .int m_length, .int m_cursor, .int m_token, .int m_start, .int m_till, .int m_fault, .int m_faultAt, .int m_seen, .int m_mirrors, .ref y_cost, .ref y_away, .ref y_fee, .ref y_goesTo, .ref y_priceWas, .ref y_isKept, .ref y_kept, .ref y_trace, .int m_traced])), (y_city, .inl (cI, 192, .inl cy))])) := by
  refine b_metI (cc := cX9_paysNow) (maxL := 3) (ret := (some .int)) (by decide) rfl (Nat.le_of_ble_eq_true rfl) ?_
  intro p e s m below meth c ls A H X hsz hP hK hT hD hA hS hl
  have S : CallFix p m c cX9_paysNow 3 s ([.ref y, .int a] : List Value).toArray wsX9_paysNow RX9 := X.1
  have hl : lv_has ls 3 [(0, .ref y), (1, .int a)] := hl
  have iX9 := jX9_paysNow_X9
  refine lv_aload_n S.1 S.2.1 dX9_paysNow_0 rfl (lv_at hl 0 rfl) ?_
  refine b_ai (wr := []) (b_runV (q0 := 0) (ci := 9) (As := []) (s_X9_ownerSeen_x l D cI cZ cC cS sq H.size y y_city m_thrown m_status y_lane y_many y_item y_fresh m_isThere y_tape m_taped m_latest m_length m_cursor m_token m_start m_till m_fault m_faultAt m_seen m_mirrors y_cost y_away y_fee y_goesTo y_priceWas y_isKept y_kept y_trace m_traced cy _ (by first | with_reducible assumption | assumption | omega | decide | (rw [show Int32.toInt 0 = 0 from rfl]; omega)) (by first | with_reducible assumption | (and_intros <;> first | with_reducible assumption | (intros; refine Int.le_antisymm ?_ ?_ <;> omega) | omega) | assumption | decide | (rw [show Int32.toInt 0 = 0 from rfl]; omega)) (by first | with_reducible assumption | assumption | omega | decide | (rw [show Int32.toInt 0 = 0 from rfl]; omega)) (by first | with_reducible assumption | assumption | omega | decide | (rw [show Int32.toInt 0 = 0 from rfl]; omega)) (by first | with_reducible assumption | (and_intros <;> first | with_reducible assumption | (intros; refine Int.le_antisymm ?_ ?_ <;> omega) | omega) | assumption | decide | (rw [show Int32.toInt 0 = 0 from rfl]; omega))) S gX9_paysNow_X9_ownerSeen rfl hdV_X9_ownerSeen ⟨Nat.le_of_ble_eq_true rfl, Nat.le_of_ble_eq_true rfl⟩ ⟨Nat.le_of_ble_eq_true rfl, Nat.le_of_ble_eq_true rfl⟩ hK hT hS hA hP hD rfl rfl [0, 1] rfl (by decide) rfl hl.1 rfl (Nat.le_of_ble_eq_true rfl) dX9_paysNow_1) hP hD hS hA [0, 1] [] rfl rfl (by decide) (by decide) (fun r_1 w_2 H locs hw_3 hP hD hS => ?_)
  obtain ⟨hf_4, hf_5, rfl⟩ := hw_3
  have hP : va_P D vwCl [(y, .inr (9, [.int m_thrown, .int m_status, .ref y_lane, .ref y_many, .ref y_item, .ref y_city, .ref y_fresh, .int m_isThere, .ref y_tape, .int m_taped, .int m_latest, .int m_length, .int m_cursor, .int m_token, .int m_start, .int m_till, .int m_fault, .int m_faultAt, .int m_seen, .int m_mirrors, .ref y_cost, .ref y_away, .ref y_fee, .ref y_goesTo, .ref y_priceWas, .ref y_isKept, .ref y_kept, .ref y_trace, .int m_traced])), (y_city, .inl (cI, 192, .inl cy))] H := hP
  have hD : va_D A [(y, .inr (9, [.int m_thrown, .int m_status, .ref y_lane, .ref y_many, .ref y_item, .ref y_city, .ref y_fresh, .int m_isThere, .ref y_tape, .int m_taped, .int m_latest, .int m_length, .int m_cursor, .int m_token, .int m_start, .int m_till, .int m_fault, .int m_faultAt, .int m_seen, .int m_mirrors, .ref y_cost, .ref y_away, .ref y_fee, .ref y_goesTo, .ref y_priceWas, .ref y_isKept, .ref y_kept, .ref y_trace, .int m_traced])), (y_city, .inl (cI, 192, .inl cy))] := hD
  refine lv_istore_n (lv' := [(2, .int r_1), (0, .ref y), (1, .int a)]) S.1 S.2.1 dX9_paysNow_4 rfl hl (by decide) rfl (fun ls hl => ?_)
  refine lv_iload_n S.1 S.2.1 dX9_paysNow_5 rfl (lv_at hl 0 rfl) ?_
  refine lv_if_lt (tgt := 32) S.1 S.2.1 dX9_paysNow_6 (by decide) (fun c_6 => ?_) (fun c_6 => ?_)
  · rw [lt2 (a := r_1) (b := 0) (A := r_1.toInt) (B := 0) rfl rfl] at c_6
    refine lv_iconst (v := (0)) S.1 S.2.1 dX9_paysNow_32 (by decide) ?_
    refine lv_goto (tgt := 40) S.1 S.2.1 dX9_paysNow_33 (by decide) ?_
    have lq0 : Int32.toInt (0) = 0 := by decide
    exact b_iret S.1 S.2.1 X.2.1 X.2.2.1 hP hD hS ⟨(by first | with_reducible assumption | (and_intros <;> first | with_reducible assumption | (intros; refine Int.le_antisymm ?_ ?_ <;> omega) | omega) | assumption | decide | (rw [show Int32.toInt 0 = 0 from rfl]; omega)), (by first | exact pyY_0 (by first | (refine Int.le_antisymm ?_ ?_ <;> omega) | omega) rfl | exact pyY_c (o := (r_1).toInt) (by first | (refine Int.le_antisymm ?_ ?_ <;> omega) | omega) (by first | (refine Int.le_antisymm ?_ ?_ <;> omega) | omega) (by first | (refine Int.le_antisymm ?_ ?_ <;> omega) | omega) rfl | exact pyY_p (o := (r_1).toInt) (by first | (refine Int.le_antisymm ?_ ?_ <;> omega) | omega) (by first | (refine Int.le_antisymm ?_ ?_ <;> omega) | omega) (by assumption)), rfl⟩ dX9_paysNow_40
  · rw [lt2 (a := r_1) (b := 0) (A := r_1.toInt) (B := 0) rfl rfl] at c_6
    refine lv_aload_n S.1 S.2.1 dX9_paysNow_9 rfl (lv_at hl 1 rfl) ?_
    refine lv_iload_n S.1 S.2.1 dX9_paysNow_10 rfl (lv_at hl 2 rfl) ?_
    refine lv_iconst (v := (2)) S.1 S.2.1 dX9_paysNow_11 (by decide) ?_
    refine b_ai (wr := []) (b_runV (q0 := 0) (ci := 9) (As := [.int a, .int 2]) (s_X9_of l D cI cZ cC cS sq H.size y y_city a (2) m_thrown m_status y_lane y_many y_item y_fresh m_isThere y_tape m_taped m_latest m_length m_cursor m_token m_start m_till m_fault m_faultAt m_seen m_mirrors y_cost y_away y_fee y_goesTo y_priceWas y_isKept y_kept y_trace m_traced cy (by first | with_reducible assumption | assumption | omega | decide | (rw [show Int32.toInt 0 = 0 from rfl]; omega)) (by first | with_reducible assumption | (and_intros <;> first | with_reducible assumption | (intros; refine Int.le_antisymm ?_ ?_ <;> omega) | omega) | assumption | decide | (rw [show Int32.toInt 0 = 0 from rfl]; omega)) (by first | with_reducible assumption | (and_intros <;> first | with_reducible assumption | (intros; refine Int.le_antisymm ?_ ?_ <;> omega) | omega) | assumption | decide | (rw [show Int32.toInt 0 = 0 from rfl]; omega))) S gX9_paysNow_X9_of rfl hdV_X9_of ⟨Nat.le_of_ble_eq_true rfl, Nat.le_of_ble_eq_true rfl⟩ ⟨Nat.le_of_ble_eq_true rfl, Nat.le_of_ble_eq_true rfl⟩ hK hT hS hA hP hD rfl rfl [0, 1] rfl (by decide) rfl hl.1 rfl (Nat.le_of_ble_eq_true rfl) dX9_paysNow_12) hP hD hS hA [0, 1] [] rfl rfl (by decide) (by decide) (fun r_7 w_8 H locs hw_9 hP hD hS => ?_)
    obtain ⟨hf_10, hf_11, rfl⟩ := hw_9
    have hf_10 : (((2) : Int) = 0 ∨ ((2) : Int) = 1) → 0 ≤ r_7.toInt ∧ r_7.toInt < 80 := hf_10
    have hf_11 : r_7 = cy (96 + 4 * a.toInt + ((2) : Int)).toNat := hf_11
    have hP : va_P D vwCl [(y, .inr (9, [.int m_thrown, .int m_status, .ref y_lane, .ref y_many, .ref y_item, .ref y_city, .ref y_fresh, .int m_isThere, .ref y_tape, .int m_taped, .int m_latest, .int m_length, .int m_cursor, .int m_token, .int m_start, .int m_till, .int m_fault, .int m_faultAt, .int m_seen, .int m_mirrors, .ref y_cost, .ref y_away, .ref y_fee, .ref y_goesTo, .ref y_priceWas, .ref y_isKept, .ref y_kept, .ref y_trace, .int m_traced])), (y_city, .inl (cI, 192, .inl cy))] H := hP
    have hD : va_D A [(y, .inr (9, [.int m_thrown, .int m_status, .ref y_lane, .ref y_many, .ref y_item, .ref y_city, .ref y_fresh, .int m_isThere, .ref y_tape, .int m_taped, .int m_latest, .int m_length, .int m_cursor, .int m_token, .int m_start, .int m_till, .int m_fault, .int m_faultAt, .int m_seen, .int m_mirrors, .ref y_cost, .ref y_away, .ref y_fee, .ref y_goesTo, .ref y_priceWas, .ref y_isKept, .ref y_kept, .ref y_trace, .int m_traced])), (y_city, .inl (cI, 192, .inl cy))] := hD
    have mn_ : (r_7).toInt = gg (98 + 4 * a.toInt.toNat) := by have z := (by assumption : r_7 = cy _); rw [z]; exact (congrArg (fun z => (cy z).toInt) (by show _ = 98 + 4 * a.toInt.toNat; omega)).trans (hcs.2.2 a.toInt.toNat (by first | (refine Int.le_antisymm ?_ ?_ <;> omega) | omega)).2
    refine lv_iconst (v := (1)) S.1 S.2.1 dX9_paysNow_15 (by decide) ?_
    refine lv_icmp_ne (tgt := 36) S.1 S.2.1 dX9_paysNow_16 (by decide) (fun c_12 => ?_) (fun c_12 => ?_)
    · rw [eq2 (a := r_7) (b := 1) (A := r_7.toInt) (B := 1) rfl rfl] at c_12
      refine lv_aload_n S.1 S.2.1 dX9_paysNow_36 rfl (lv_at hl 1 rfl) ?_
      refine b_ai (wr := []) (b_runV (q0 := 0) (ci := 9) (As := []) (s_X9_priceSeen_x l D cI cZ cC cS sq H.size y y_city m_thrown m_status y_lane y_many y_item y_fresh m_isThere y_tape m_taped m_latest m_length m_cursor m_token m_start m_till m_fault m_faultAt m_seen m_mirrors y_cost y_away y_fee y_goesTo y_priceWas y_isKept y_kept y_trace m_traced cy _ (by first | with_reducible assumption | assumption | omega | decide | (rw [show Int32.toInt 0 = 0 from rfl]; omega)) (by first | with_reducible assumption | (and_intros <;> first | with_reducible assumption | (intros; refine Int.le_antisymm ?_ ?_ <;> omega) | omega) | assumption | decide | (rw [show Int32.toInt 0 = 0 from rfl]; omega)) (by first | with_reducible assumption | assumption | omega | decide | (rw [show Int32.toInt 0 = 0 from rfl]; omega)) (by first | with_reducible assumption | assumption | omega | decide | (rw [show Int32.toInt 0 = 0 from rfl]; omega)) (by first | with_reducible assumption | (and_intros <;> first | with_reducible assumption | (intros; refine Int.le_antisymm ?_ ?_ <;> omega) | omega) | assumption | decide | (rw [show Int32.toInt 0 = 0 from rfl]; omega)) (by first | with_reducible assumption | assumption | omega | decide | (rw [show Int32.toInt 0 = 0 from rfl]; omega))) S gX9_paysNow_X9_priceSeen rfl hdV_X9_priceSeen ⟨Nat.le_of_ble_eq_true rfl, Nat.le_of_ble_eq_true rfl⟩ ⟨Nat.le_of_ble_eq_true rfl, Nat.le_of_ble_eq_true rfl⟩ hK hT hS hA hP hD rfl rfl [0, 1] rfl (by decide) rfl hl.1 rfl (Nat.le_of_ble_eq_true rfl) dX9_paysNow_37) hP hD hS hA [0, 1] [] rfl rfl (by decide) (by decide) (fun r_13 w_14 H locs hw_15 hP hD hS => ?_)
      obtain ⟨hf_16, hf_17, rfl⟩ := hw_15
      have hP : va_P D vwCl [(y, .inr (9, [.int m_thrown, .int m_status, .ref y_lane, .ref y_many, .ref y_item, .ref y_city, .ref y_fresh, .int m_isThere, .ref y_tape, .int m_taped, .int m_latest, .int m_length, .int m_cursor, .int m_token, .int m_start, .int m_till, .int m_fault, .int m_faultAt, .int m_seen, .int m_mirrors, .ref y_cost, .ref y_away, .ref y_fee, .ref y_goesTo, .ref y_priceWas, .ref y_isKept, .ref y_kept, .ref y_trace, .int m_traced])), (y_city, .inl (cI, 192, .inl cy))] H := hP
      have hD : va_D A [(y, .inr (9, [.int m_thrown, .int m_status, .ref y_lane, .ref y_many, .ref y_item, .ref y_city, .ref y_fresh, .int m_isThere, .ref y_tape, .int m_taped, .int m_latest, .int m_length, .int m_cursor, .int m_token, .int m_start, .int m_till, .int m_fault, .int m_faultAt, .int m_seen, .int m_mirrors, .ref y_cost, .ref y_away, .ref y_fee, .ref y_goesTo, .ref y_priceWas, .ref y_isKept, .ref y_kept, .ref y_trace, .int m_traced])), (y_city, .inl (cI, 192, .inl cy))] := hD
      exact b_iret S.1 S.2.1 X.2.1 X.2.2.1 hP hD hS ⟨(by first | with_reducible assumption | (and_intros <;> first | with_reducible assumption | (intros; refine Int.le_antisymm ?_ ?_ <;> omega) | omega) | assumption | decide | (rw [show Int32.toInt 0 = 0 from rfl]; omega)), (by first | exact pyY_0 (by first | (refine Int.le_antisymm ?_ ?_ <;> omega) | omega) rfl | exact pyY_c (o := (r_1).toInt) (by first | (refine Int.le_antisymm ?_ ?_ <;> omega) | omega) (by first | (refine Int.le_antisymm ?_ ?_ <;> omega) | omega) (by first | (refine Int.le_antisymm ?_ ?_ <;> omega) | omega) rfl | exact pyY_p (o := (r_1).toInt) (by first | (refine Int.le_antisymm ?_ ?_ <;> omega) | omega) (by first | (refine Int.le_antisymm ?_ ?_ <;> omega) | omega) (by assumption)), rfl⟩ dX9_paysNow_40
    · rw [eq2 (a := r_7) (b := 1) (A := r_7.toInt) (B := 1) rfl rfl] at c_12
      refine lv_aload_n S.1 S.2.1 dX9_paysNow_19 rfl (lv_at hl 1 rfl) ?_
      refine b_get (v := .ref y_city) S iX9 hK hP 0 rfl rfl 5 (by decide) (by decide +kernel) rfl dX9_paysNow_20 ?_
      refine lv_bipush (v := (90)) S.1 S.2.1 dX9_paysNow_23 (by decide) ?_
      refine lv_iload_n S.1 S.2.1 dX9_paysNow_25 rfl (lv_at hl 0 rfl) ?_
      refine lv_iadd S.1 S.2.1 dX9_paysNow_26 ?_
      refine lv_topi (fun x_18 ex_18 => ?_)
      have tx_18 : x_18.toInt = 90 + (r_1.toInt) := addI (A := 90) (B := r_1.toInt) ex_18 rfl rfl (by  omega) (by  omega)
      have hin_19 : vp_in x_18 192 := (in_of (n := 192) (by  omega) (by  omega))
      refine va_iald S.1 S.2.1 hK.1 hP 1 0 rfl rfl hin_19 dX9_paysNow_27 ?_
      refine lv_topi (fun x_20 ex_20 => ?_)
      have fv_ : x_20.toInt = gg (90 + (r_1).toInt.toNat) := by rw [ex_20]; exact (congrArg (fun z => (cy z).toInt) (by show (x_18).toInt.toNat = 90 + (r_1).toInt.toNat; omega)).trans (hcs.1 (90 + (r_1).toInt.toNat) (by first | (refine Int.le_antisymm ?_ ?_ <;> omega) | omega))
      have f01_ := hgf (r_1).toInt.toNat (by first | (refine Int.le_antisymm ?_ ?_ <;> omega) | omega)
      refine lv_iconst (v := (1)) S.1 S.2.1 dX9_paysNow_28 (by decide) ?_
      refine lv_icmp_ne (tgt := 36) S.1 S.2.1 dX9_paysNow_29 (by decide) (fun c_21 => ?_) (fun c_21 => ?_)
      · rw [eq2 (a := x_20) (b := 1) (A := x_20.toInt) (B := 1) rfl rfl] at c_21
        refine lv_aload_n S.1 S.2.1 dX9_paysNow_36 rfl (lv_at hl 1 rfl) ?_
        refine b_ai (wr := []) (b_runV (q0 := 0) (ci := 9) (As := []) (s_X9_priceSeen_x l D cI cZ cC cS sq H.size y y_city m_thrown m_status y_lane y_many y_item y_fresh m_isThere y_tape m_taped m_latest m_length m_cursor m_token m_start m_till m_fault m_faultAt m_seen m_mirrors y_cost y_away y_fee y_goesTo y_priceWas y_isKept y_kept y_trace m_traced cy _ (by first | with_reducible assumption | assumption | omega | decide | (rw [show Int32.toInt 0 = 0 from rfl]; omega)) (by first | with_reducible assumption | (and_intros <;> first | with_reducible assumption | (intros; refine Int.le_antisymm ?_ ?_ <;> omega) | omega) | assumption | decide | (rw [show Int32.toInt 0 = 0 from rfl]; omega)) (by first | with_reducible assumption | assumption | omega | decide | (rw [show Int32.toInt 0 = 0 from rfl]; omega)) (by first | with_reducible assumption | assumption | omega | decide | (rw [show Int32.toInt 0 = 0 from rfl]; omega)) (by first | with_reducible assumption | (and_intros <;> first | with_reducible assumption | (intros; refine Int.le_antisymm ?_ ?_ <;> omega) | omega) | assumption | decide | (rw [show Int32.toInt 0 = 0 from rfl]; omega)) (by first | with_reducible assumption | assumption | omega | decide | (rw [show Int32.toInt 0 = 0 from rfl]; omega))) S gX9_paysNow_X9_priceSeen rfl hdV_X9_priceSeen ⟨Nat.le_of_ble_eq_true rfl, Nat.le_of_ble_eq_true rfl⟩ ⟨Nat.le_of_ble_eq_true rfl, Nat.le_of_ble_eq_true rfl⟩ hK hT hS hA hP hD rfl rfl [0, 1] rfl (by decide) rfl hl.1 rfl (Nat.le_of_ble_eq_true rfl) dX9_paysNow_37) hP hD hS hA [0, 1] [] rfl rfl (by decide) (by decide) (fun r_22 w_23 H locs hw_24 hP hD hS => ?_)
        obtain ⟨hf_25, hf_26, rfl⟩ := hw_24
        have hP : va_P D vwCl [(y, .inr (9, [.int m_thrown, .int m_status, .ref y_lane, .ref y_many, .ref y_item, .ref y_city, .ref y_fresh, .int m_isThere, .ref y_tape, .int m_taped, .int m_latest, .int m_length, .int m_cursor, .int m_token, .int m_start, .int m_till, .int m_fault, .int m_faultAt, .int m_seen, .int m_mirrors, .ref y_cost, .ref y_away, .ref y_fee, .ref y_goesTo, .ref y_priceWas, .ref y_isKept, .ref y_kept, .ref y_trace, .int m_traced])), (y_city, .inl (cI, 192, .inl cy))] H := hP
        have hD : va_D A [(y, .inr (9, [.int m_thrown, .int m_status, .ref y_lane, .ref y_many, .ref y_item, .ref y_city, .ref y_fresh, .int m_isThere, .ref y_tape, .int m_taped, .int m_latest, .int m_length, .int m_cursor, .int m_token, .int m_start, .int m_till, .int m_fault, .int m_faultAt, .int m_seen, .int m_mirrors, .ref y_cost, .ref y_away, .ref y_fee, .ref y_goesTo, .ref y_priceWas, .ref y_isKept, .ref y_kept, .ref y_trace, .int m_traced])), (y_city, .inl (cI, 192, .inl cy))] := hD
        exact b_iret S.1 S.2.1 X.2.1 X.2.2.1 hP hD hS ⟨(by first | with_reducible assumption | (and_intros <;> first | with_reducible assumption | (intros; refine Int.le_antisymm ?_ ?_ <;> omega) | omega) | assumption | decide | (rw [show Int32.toInt 0 = 0 from rfl]; omega)), (by first | exact pyY_0 (by first | (refine Int.le_antisymm ?_ ?_ <;> omega) | omega) rfl | exact pyY_c (o := (r_1).toInt) (by first | (refine Int.le_antisymm ?_ ?_ <;> omega) | omega) (by first | (refine Int.le_antisymm ?_ ?_ <;> omega) | omega) (by first | (refine Int.le_antisymm ?_ ?_ <;> omega) | omega) rfl | exact pyY_p (o := (r_1).toInt) (by first | (refine Int.le_antisymm ?_ ?_ <;> omega) | omega) (by first | (refine Int.le_antisymm ?_ ?_ <;> omega) | omega) (by assumption)), rfl⟩ dX9_paysNow_40
      · rw [eq2 (a := x_20) (b := 1) (A := x_20.toInt) (B := 1) rfl rfl] at c_21
        refine lv_iconst (v := (0)) S.1 S.2.1 dX9_paysNow_32 (by decide) ?_
        refine lv_goto (tgt := 40) S.1 S.2.1 dX9_paysNow_33 (by decide) ?_
        have lq0 : Int32.toInt (0) = 0 := by decide
        exact b_iret S.1 S.2.1 X.2.1 X.2.2.1 hP hD hS ⟨(by first | with_reducible assumption | (and_intros <;> first | with_reducible assumption | (intros; refine Int.le_antisymm ?_ ?_ <;> omega) | omega) | assumption | decide | (rw [show Int32.toInt 0 = 0 from rfl]; omega)), (by first | exact pyY_0 (by first | (refine Int.le_antisymm ?_ ?_ <;> omega) | omega) rfl | exact pyY_c (o := (r_1).toInt) (by first | (refine Int.le_antisymm ?_ ?_ <;> omega) | omega) (by first | (refine Int.le_antisymm ?_ ?_ <;> omega) | omega) (by first | (refine Int.le_antisymm ?_ ?_ <;> omega) | omega) rfl | exact pyY_p (o := (r_1).toInt) (by first | (refine Int.le_antisymm ?_ ?_ <;> omega) | omega) (by first | (refine Int.le_antisymm ?_ ?_ <;> omega) | omega) (by assumption)), rfl⟩ dX9_paysNow_40
set_option maxHeartbeats 4000000 in
set_option maxRecDepth 100000 in
theorem s_X9_mayGo (l : Launch) (D : va_G) (cI cZ cC cS : ClassId) (sq : Nat → Nat) (sz : Nat) (y : Nat) (y_city : Nat) (a : Int32) (co : Int32) (m_thrown : Int32) (m_status : Int32) (y_lane : Nat) (y_many : Nat) (y_item : Nat) (y_fresh : Nat) (m_isThere : Int32) (y_tape : Nat) (m_taped : Int32) (m_latest : Int32) (m_length : Int32) (m_cursor : Int32) (m_token : Int32) (m_start : Int32) (m_till : Int32) (m_fault : Int32) (m_faultAt : Int32) (m_seen : Int32) (m_mirrors : Int32) (y_cost : Nat) (y_away : Nat) (y_fee : Nat) (y_goesTo : Nat) (y_priceWas : Nat) (y_isKept : Nat) (y_kept : Nat) (y_trace : Nat) (m_traced : Int32) (cy : Nat → Int32) (gg : Nat → Int) (hpd_cy : prd cyK 192 cy) (ha : 0 ≤ a.toInt ∧ a.toInt < 6) (hcs : CYs gg cy) (hag : a.toInt < gg 3) (h63 : gg 3 ≤ 6) : mI l yX9_mayGo wsX9_mayGo 1 40 D (tyW cI cZ cC cS) sq [(y, .inr (9, [.int m_thrown, .int m_status, .ref y_lane, .ref y_many, .ref y_item, .ref y_city, .ref y_fresh, .int m_isThere, .ref y_tape, .int m_taped, .int m_latest, .int m_length, .int m_cursor, .int m_token, .int m_start, .int m_till, .int m_fault, .int m_faultAt, .int m_seen, .int m_mirrors, .ref y_cost, .ref y_away, .ref y_fee, .ref y_goesTo, .ref y_priceWas, .ref y_isKept, .ref y_kept, .ref y_trace, .int m_traced])), (y_city, .inl (cI, 192, .inl cy))] sz [.ref y, .int a, .int co] (fun r w => ((0 ≤ co.toInt ∧ co.toInt < 16) ∧ ((gg (98 + 4 * a.toInt.toNat) = 2 ∧ 0 ≤ co.toInt ∧ co.toInt < 16) ∨ (¬ gg (98 + 4 * a.toInt.toNat) = 2 ∧ 0 ≤ co.toInt ∧ co.toInt < 8)) ∧ r = 1 ∧ w = [(y, .inr (9, [.int m_thrown, .int m_status, .ref y_lane, .ref y_many, .ref y_item, .ref y_city, .ref y_fresh, .int m_isThere, .ref y_tape, .int m_taped, .int m_latest, .int m_length, .int m_cursor, .int m_token, .int m_start, .int m_till, .int m_fault, .int m_faultAt, .int m_seen, .int m_mirrors, .ref y_cost, .ref y_away, .ref y_fee, .ref y_goesTo, .ref y_priceWas, .ref y_isKept, .ref y_kept, .ref y_trace, .int m_traced])), (y_city, .inl (cI, 192, .inl cy))]) ∨ ((¬ ((gg (98 + 4 * a.toInt.toNat) = 2 ∧ 0 ≤ co.toInt ∧ co.toInt < 16) ∨ (¬ gg (98 + 4 * a.toInt.toNat) = 2 ∧ 0 ≤ co.toInt ∧ co.toInt < 8))) ∧ r = 0 ∧ w = [(y, .inr (9, [.int m_thrown, .int m_status, .ref y_lane, .ref y_many, .ref y_item, .ref y_city, .ref y_fresh, .int m_isThere, .ref y_tape, .int m_taped, .int m_latest, .int m_length, .int m_cursor, .int m_token, .int m_start, .int m_till, .int m_fault, .int m_faultAt, .int m_seen, .int m_mirrors, .ref y_cost, .ref y_away, .ref y_fee, .ref y_goesTo, .ref y_priceWas, .ref y_isKept, .ref y_kept, .ref y_trace, .int m_traced])), (y_city, .inl (cI, 192, .inl cy))])) := by
  refine b_metI (cc := cX9_mayGo) (maxL := 3) (ret := (some .boolean)) (by decide) rfl (Nat.le_of_ble_eq_true rfl) ?_
  intro p e s m below meth c ls A H X hsz hP hK hT hD hA hS hl
  have S : CallFix p m c cX9_mayGo 3 s ([.ref y, .int a, .int co] : List Value).toArray wsX9_mayGo RX9 := X.1
  have hl : lv_has ls 3 [(0, .ref y), (1, .int a), (2, .int co)] := hl
  refine lv_iload_n S.1 S.2.1 dX9_mayGo_0 rfl (lv_at hl 2 rfl) ?_
  refine lv_i2l (v := co.toInt64) S.1 S.2.1 dX9_mayGo_1 rfl ?_
  refine lv_lconst (v := 0) S.1 S.2.1 dX9_mayGo_2 (by decide) ?_
  refine lv_aload_n S.1 S.2.1 dX9_mayGo_3 rfl (lv_at hl 0 rfl) ?_
  refine lv_iload_n S.1 S.2.1 dX9_mayGo_4 rfl (lv_at hl 1 rfl) ?_
  refine lv_iconst (v := (2)) S.1 S.2.1 dX9_mayGo_5 (by decide) ?_
  refine b_ai (wr := []) (b_runV (q0 := 0) (ci := 9) (As := [.int a, .int 2]) (s_X9_of l D cI cZ cC cS sq H.size y y_city a (2) m_thrown m_status y_lane y_many y_item y_fresh m_isThere y_tape m_taped m_latest m_length m_cursor m_token m_start m_till m_fault m_faultAt m_seen m_mirrors y_cost y_away y_fee y_goesTo y_priceWas y_isKept y_kept y_trace m_traced cy (by first | with_reducible assumption | assumption | omega | decide | (rw [show Int32.toInt 0 = 0 from rfl]; omega)) (by first | with_reducible assumption | (and_intros <;> first | with_reducible assumption | (intros; refine Int.le_antisymm ?_ ?_ <;> omega) | omega) | assumption | decide | (rw [show Int32.toInt 0 = 0 from rfl]; omega)) (by first | with_reducible assumption | (and_intros <;> first | with_reducible assumption | (intros; refine Int.le_antisymm ?_ ?_ <;> omega) | omega) | assumption | decide | (rw [show Int32.toInt 0 = 0 from rfl]; omega))) S gX9_mayGo_X9_of rfl hdV_X9_of ⟨Nat.le_of_ble_eq_true rfl, Nat.le_of_ble_eq_true rfl⟩ ⟨Nat.le_of_ble_eq_true rfl, Nat.le_of_ble_eq_true rfl⟩ hK hT hS hA hP hD rfl rfl [0, 1] rfl (by decide) rfl hl.1 rfl (Nat.le_of_ble_eq_true rfl) dX9_mayGo_6) hP hD hS hA [0, 1] [] rfl rfl (by decide) (by decide) (fun r_1 w_2 H locs hw_3 hP hD hS => ?_)
  obtain ⟨hf_4, hf_5, rfl⟩ := hw_3
  have hf_4 : (((2) : Int) = 0 ∨ ((2) : Int) = 1) → 0 ≤ r_1.toInt ∧ r_1.toInt < 80 := hf_4
  have hf_5 : r_1 = cy (96 + 4 * a.toInt + ((2) : Int)).toNat := hf_5
  have hP : va_P D vwCl [(y, .inr (9, [.int m_thrown, .int m_status, .ref y_lane, .ref y_many, .ref y_item, .ref y_city, .ref y_fresh, .int m_isThere, .ref y_tape, .int m_taped, .int m_latest, .int m_length, .int m_cursor, .int m_token, .int m_start, .int m_till, .int m_fault, .int m_faultAt, .int m_seen, .int m_mirrors, .ref y_cost, .ref y_away, .ref y_fee, .ref y_goesTo, .ref y_priceWas, .ref y_isKept, .ref y_kept, .ref y_trace, .int m_traced])), (y_city, .inl (cI, 192, .inl cy))] H := hP
  have hD : va_D A [(y, .inr (9, [.int m_thrown, .int m_status, .ref y_lane, .ref y_many, .ref y_item, .ref y_city, .ref y_fresh, .int m_isThere, .ref y_tape, .int m_taped, .int m_latest, .int m_length, .int m_cursor, .int m_token, .int m_start, .int m_till, .int m_fault, .int m_faultAt, .int m_seen, .int m_mirrors, .ref y_cost, .ref y_away, .ref y_fee, .ref y_goesTo, .ref y_priceWas, .ref y_isKept, .ref y_kept, .ref y_trace, .int m_traced])), (y_city, .inl (cI, 192, .inl cy))] := hD
  have mn_ : (r_1).toInt = gg (98 + 4 * a.toInt.toNat) := by have z := (by assumption : r_1 = cy _); rw [z]; exact (congrArg (fun z => (cy z).toInt) (by show _ = 98 + 4 * a.toInt.toNat; omega)).trans (hcs.2.2 a.toInt.toNat (by first | (refine Int.le_antisymm ?_ ?_ <;> omega) | omega)).2
  refine lv_iconst (v := (2)) S.1 S.2.1 dX9_mayGo_9 (by decide) ?_
  refine lv_icmp_ne (tgt := 19) S.1 S.2.1 dX9_mayGo_10 (by decide) (fun c_6 => ?_) (fun c_6 => ?_)
  · rw [eq2 (a := r_1) (b := 2) (A := r_1.toInt) (B := 2) rfl rfl] at c_6
    refine lv_ldc2 (v := (7)) S.1 S.2.1 S.2.2.2.1 (S.2.2.2.2 (.constantLong RX9 61 (7)) (by decide +kernel)) dX9_mayGo_19 ?_
    refine b_ai (wr := [(y, .inr (9, [.int m_thrown, .int m_status, .ref y_lane, .ref y_many, .ref y_item, .ref y_city, .ref y_fresh, .int m_isThere, .ref y_tape, .int m_taped, .int m_latest, .int m_length, .int m_cursor, .int m_token, .int m_start, .int m_till, .int m_fault, .int m_faultAt, .int m_seen, .int m_mirrors, .ref y_cost, .ref y_away, .ref y_fee, .ref y_goesTo, .ref y_priceWas, .ref y_isKept, .ref y_kept, .ref y_trace, .int m_traced])), (y_city, .inl (cI, 192, .inl cy))]) (b_runS (As := [.long (co.toInt64), .long 0, .long 7]) (s_X9_in l D cI cZ cC cS sq H.size (co.toInt64) (0) (7)) S gX9_mayGo_X9_in rfl hdS_X9_in ⟨Nat.le_of_ble_eq_true rfl, Nat.le_of_ble_eq_true rfl⟩ ⟨Nat.le_of_ble_eq_true rfl, Nat.le_of_ble_eq_true rfl⟩ hK hT hS hA hP hD [] rfl (by decide) rfl hl.1 rfl (Nat.le_of_ble_eq_true rfl) dX9_mayGo_22) hP hD hS hA [] [0, 1] rfl rfl (by decide) (by decide) (fun r_7 w_8 H locs hw_9 hP hD hS => ?_)
    rcases hw_9 with ⟨hf_10, rfl, rfl⟩ | ⟨hf_11, rfl, rfl⟩
    · have hf_10 : (0) ≤ co.toInt ∧ co.toInt ≤ (7) := by simp only [Int32.toInt_toInt64] at hf_10; exact hf_10
      have hP : va_P D vwCl [(y, .inr (9, [.int m_thrown, .int m_status, .ref y_lane, .ref y_many, .ref y_item, .ref y_city, .ref y_fresh, .int m_isThere, .ref y_tape, .int m_taped, .int m_latest, .int m_length, .int m_cursor, .int m_token, .int m_start, .int m_till, .int m_fault, .int m_faultAt, .int m_seen, .int m_mirrors, .ref y_cost, .ref y_away, .ref y_fee, .ref y_goesTo, .ref y_priceWas, .ref y_isKept, .ref y_kept, .ref y_trace, .int m_traced])), (y_city, .inl (cI, 192, .inl cy))] H := hP
      have hD : va_D A [(y, .inr (9, [.int m_thrown, .int m_status, .ref y_lane, .ref y_many, .ref y_item, .ref y_city, .ref y_fresh, .int m_isThere, .ref y_tape, .int m_taped, .int m_latest, .int m_length, .int m_cursor, .int m_token, .int m_start, .int m_till, .int m_fault, .int m_faultAt, .int m_seen, .int m_mirrors, .ref y_cost, .ref y_away, .ref y_fee, .ref y_goesTo, .ref y_priceWas, .ref y_isKept, .ref y_kept, .ref y_trace, .int m_traced])), (y_city, .inl (cI, 192, .inl cy))] := hD
      exact b_zret S.1 S.2.1 X.2.1 X.2.2.1 rfl hP hD hS (Or.inl ⟨(by first | with_reducible assumption | (and_intros <;> first | with_reducible assumption | (intros; refine Int.le_antisymm ?_ ?_ <;> omega) | omega) | assumption | decide | (rw [show Int32.toInt 0 = 0 from rfl]; omega)), (by first | with_reducible assumption | (and_intros <;> first | with_reducible assumption | (intros; refine Int.le_antisymm ?_ ?_ <;> omega) | omega) | assumption | decide | (rw [show Int32.toInt 0 = 0 from rfl]; omega)), rfl, rfl⟩) dX9_mayGo_25
    · have hf_11 : co.toInt < (0) ∨ (7) < co.toInt := by simp only [Int32.toInt_toInt64] at hf_11; exact hf_11
      have hP : va_P D vwCl [(y, .inr (9, [.int m_thrown, .int m_status, .ref y_lane, .ref y_many, .ref y_item, .ref y_city, .ref y_fresh, .int m_isThere, .ref y_tape, .int m_taped, .int m_latest, .int m_length, .int m_cursor, .int m_token, .int m_start, .int m_till, .int m_fault, .int m_faultAt, .int m_seen, .int m_mirrors, .ref y_cost, .ref y_away, .ref y_fee, .ref y_goesTo, .ref y_priceWas, .ref y_isKept, .ref y_kept, .ref y_trace, .int m_traced])), (y_city, .inl (cI, 192, .inl cy))] H := hP
      have hD : va_D A [(y, .inr (9, [.int m_thrown, .int m_status, .ref y_lane, .ref y_many, .ref y_item, .ref y_city, .ref y_fresh, .int m_isThere, .ref y_tape, .int m_taped, .int m_latest, .int m_length, .int m_cursor, .int m_token, .int m_start, .int m_till, .int m_fault, .int m_faultAt, .int m_seen, .int m_mirrors, .ref y_cost, .ref y_away, .ref y_fee, .ref y_goesTo, .ref y_priceWas, .ref y_isKept, .ref y_kept, .ref y_trace, .int m_traced])), (y_city, .inl (cI, 192, .inl cy))] := hD
      exact b_zret S.1 S.2.1 X.2.1 X.2.2.1 rfl hP hD hS (Or.inr (⟨(by first | with_reducible assumption | (and_intros <;> first | with_reducible assumption | (intros; refine Int.le_antisymm ?_ ?_ <;> omega) | omega) | assumption | decide | (rw [show Int32.toInt 0 = 0 from rfl]; omega)), rfl, rfl⟩)) dX9_mayGo_25
  · rw [eq2 (a := r_1) (b := 2) (A := r_1.toInt) (B := 2) rfl rfl] at c_6
    refine lv_ldc2 (v := (15)) S.1 S.2.1 S.2.2.2.1 (S.2.2.2.2 (.constantLong RX9 242 (15)) (by decide +kernel)) dX9_mayGo_13 ?_
    refine lv_goto (tgt := 22) S.1 S.2.1 dX9_mayGo_16 (by decide) ?_
    refine b_ai (wr := [(y, .inr (9, [.int m_thrown, .int m_status, .ref y_lane, .ref y_many, .ref y_item, .ref y_city, .ref y_fresh, .int m_isThere, .ref y_tape, .int m_taped, .int m_latest, .int m_length, .int m_cursor, .int m_token, .int m_start, .int m_till, .int m_fault, .int m_faultAt, .int m_seen, .int m_mirrors, .ref y_cost, .ref y_away, .ref y_fee, .ref y_goesTo, .ref y_priceWas, .ref y_isKept, .ref y_kept, .ref y_trace, .int m_traced])), (y_city, .inl (cI, 192, .inl cy))]) (b_runS (As := [.long (co.toInt64), .long 0, .long 15]) (s_X9_in l D cI cZ cC cS sq H.size (co.toInt64) (0) (15)) S gX9_mayGo_X9_in rfl hdS_X9_in ⟨Nat.le_of_ble_eq_true rfl, Nat.le_of_ble_eq_true rfl⟩ ⟨Nat.le_of_ble_eq_true rfl, Nat.le_of_ble_eq_true rfl⟩ hK hT hS hA hP hD [] rfl (by decide) rfl hl.1 rfl (Nat.le_of_ble_eq_true rfl) dX9_mayGo_22) hP hD hS hA [] [0, 1] rfl rfl (by decide) (by decide) (fun r_12 w_13 H locs hw_14 hP hD hS => ?_)
    rcases hw_14 with ⟨hf_15, rfl, rfl⟩ | ⟨hf_16, rfl, rfl⟩
    · have hf_15 : (0) ≤ co.toInt ∧ co.toInt ≤ (15) := by simp only [Int32.toInt_toInt64] at hf_15; exact hf_15
      have hP : va_P D vwCl [(y, .inr (9, [.int m_thrown, .int m_status, .ref y_lane, .ref y_many, .ref y_item, .ref y_city, .ref y_fresh, .int m_isThere, .ref y_tape, .int m_taped, .int m_latest, .int m_length, .int m_cursor, .int m_token, .int m_start, .int m_till, .int m_fault, .int m_faultAt, .int m_seen, .int m_mirrors, .ref y_cost, .ref y_away, .ref y_fee, .ref y_goesTo, .ref y_priceWas, .ref y_isKept, .ref y_kept, .ref y_trace, .int m_traced])), (y_city, .inl (cI, 192, .inl cy))] H := hP
      have hD : va_D A [(y, .inr (9, [.int m_thrown, .int m_status, .ref y_lane, .ref y_many, .ref y_item, .ref y_city, .ref y_fresh, .int m_isThere, .ref y_tape, .int m_taped, .int m_latest, .int m_length, .int m_cursor, .int m_token, .int m_start, .int m_till, .int m_fault, .int m_faultAt, .int m_seen, .int m_mirrors, .ref y_cost, .ref y_away, .ref y_fee, .ref y_goesTo, .ref y_priceWas, .ref y_isKept, .ref y_kept, .ref y_trace, .int m_traced])), (y_city, .inl (cI, 192, .inl cy))] := hD
      exact b_zret S.1 S.2.1 X.2.1 X.2.2.1 rfl hP hD hS (Or.inl ⟨(by first | with_reducible assumption | (and_intros <;> first | with_reducible assumption | (intros; refine Int.le_antisymm ?_ ?_ <;> omega) | omega) | assumption | decide | (rw [show Int32.toInt 0 = 0 from rfl]; omega)), (by first | with_reducible assumption | (and_intros <;> first | with_reducible assumption | (intros; refine Int.le_antisymm ?_ ?_ <;> omega) | omega) | assumption | decide | (rw [show Int32.toInt 0 = 0 from rfl]; omega)), rfl, rfl⟩) dX9_mayGo_25
    · have hf_16 : co.toInt < (0) ∨ (15) < co.toInt := by simp only [Int32.toInt_toInt64] at hf_16; exact hf_16
      have hP : va_P D vwCl [(y, .inr (9, [.int m_thrown, .int m_status, .ref y_lane, .ref y_many, .ref y_item, .ref y_city, .ref y_fresh, .int m_isThere, .ref y_tape, .int m_taped, .int m_latest, .int m_length, .int m_cursor, .int m_token, .int m_start, .int m_till, .int m_fault, .int m_faultAt, .int m_seen, .int m_mirrors, .ref y_cost, .ref y_away, .ref y_fee, .ref y_goesTo, .ref y_priceWas, .ref y_isKept, .ref y_kept, .ref y_trace, .int m_traced])), (y_city, .inl (cI, 192, .inl cy))] H := hP
      have hD : va_D A [(y, .inr (9, [.int m_thrown, .int m_status, .ref y_lane, .ref y_many, .ref y_item, .ref y_city, .ref y_fresh, .int m_isThere, .ref y_tape, .int m_taped, .int m_latest, .int m_length, .int m_cursor, .int m_token, .int m_start, .int m_till, .int m_fault, .int m_faultAt, .int m_seen, .int m_mirrors, .ref y_cost, .ref y_away, .ref y_fee, .ref y_goesTo, .ref y_priceWas, .ref y_isKept, .ref y_kept, .ref y_trace, .int m_traced])), (y_city, .inl (cI, 192, .inl cy))] := hD
      exact b_zret S.1 S.2.1 X.2.1 X.2.2.1 rfl hP hD hS (Or.inr (⟨(by first | with_reducible assumption | (and_intros <;> first | with_reducible assumption | (intros; refine Int.le_antisymm ?_ ?_ <;> omega) | omega) | assumption | decide | (rw [show Int32.toInt 0 = 0 from rfl]; omega)), rfl, rfl⟩)) dX9_mayGo_25
set_option maxHeartbeats 4000000 in
set_option maxRecDepth 100000 in
theorem s_X9_steps (l : Launch) (D : va_G) (cI cZ cC cS : ClassId) (sq : Nat → Nat) (sz : Nat) (y : Nat) (y_city : Nat) (a : Int32) (co : Int32) (m_thrown : Int32) (m_status : Int32) (y_lane : Nat) (y_many : Nat) (y_item : Nat) (y_fresh : Nat) (m_isThere : Int32) (y_tape : Nat) (m_taped : Int32) (m_latest : Int32) (m_length : Int32) (m_cursor : Int32) (m_token : Int32) (m_start : Int32) (m_till : Int32) (m_fault : Int32) (m_faultAt : Int32) (m_seen : Int32) (m_mirrors : Int32) (y_cost : Nat) (y_away : Nat) (y_fee : Nat) (y_goesTo : Nat) (y_priceWas : Nat) (y_isKept : Nat) (y_kept : Nat) (y_trace : Nat) (m_traced : Int32) (cy : Nat → Int32) (gg : Nat → Int) (hpd_cy : prd cyK 192 cy) (ha : 0 ≤ a.toInt ∧ a.toInt < 6) (hsm : -1 ≤ m_seen.toInt ∧ m_seen.toInt < 80 ∧ 0 ≤ m_mirrors.toInt ∧ m_mirrors.toInt ≤ 2) (hco : 0 ≤ co.toInt ∧ co.toInt < 16) (hgy : GY gg cy) (hgb : gB gg) (hcs : CYs gg cy) (hag : a.toInt < gg 3) (h63 : gg 3 ≤ 6) (hgf : gF gg) (hgo : gOK gg) (hcd : CYd gg cy) : mI l yX9_steps wsX9_steps 5 200 D (tyW cI cZ cC cS) sq [(y, .inr (9, [.int m_thrown, .int m_status, .ref y_lane, .ref y_many, .ref y_item, .ref y_city, .ref y_fresh, .int m_isThere, .ref y_tape, .int m_taped, .int m_latest, .int m_length, .int m_cursor, .int m_token, .int m_start, .int m_till, .int m_fault, .int m_faultAt, .int m_seen, .int m_mirrors, .ref y_cost, .ref y_away, .ref y_fee, .ref y_goesTo, .ref y_priceWas, .ref y_isKept, .ref y_kept, .ref y_trace, .int m_traced])), (y_city, .inl (cI, 192, .inl cy))] sz [.ref y, .int a, .int co] (fun r w => (∃ (m_seen2 : Int32), ∃ (m_mirrors2 : Int32), ∃ (cy2 : Nat → Int32), (prd cyK 192 cy2) ∧ (-1 ≤ m_seen2.toInt ∧ m_seen2.toInt < 80 ∧ 0 ≤ m_mirrors2.toInt ∧ m_mirrors2.toInt ≤ 2) ∧ (oE stI cy cy2) ∧ (r.toInt = coG gg a.toInt co.toInt) ∧ (CYd (stG gg a.toInt co.toInt) cy2) ∧ w = [(y, .inr (9, [.int m_thrown, .int m_status, .ref y_lane, .ref y_many, .ref y_item, .ref y_city, .ref y_fresh, .int m_isThere, .ref y_tape, .int m_taped, .int m_latest, .int m_length, .int m_cursor, .int m_token, .int m_start, .int m_till, .int m_fault, .int m_faultAt, .int m_seen2, .int m_mirrors2, .ref y_cost, .ref y_away, .ref y_fee, .ref y_goesTo, .ref y_priceWas, .ref y_isKept, .ref y_kept, .ref y_trace, .int m_traced])), (y_city, .inl (cI, 192, .inl cy2))])) := by
  refine b_metI (cc := cX9_steps) (maxL := 6) (ret := (some .int)) (by decide) rfl (Nat.le_of_ble_eq_true rfl) ?_
  intro p e s m below meth c ls A H X hsz hP hK hT hD hA hS hl
  have S : CallFix p m c cX9_steps 6 s ([.ref y, .int a, .int co] : List Value).toArray wsX9_steps RX9 := X.1
  have hl : lv_has ls 6 [(0, .ref y), (1, .int a), (2, .int co)] := hl
  have iX9 := jX9_steps_X9
  have o0 := oE_rfl stI cy
  refine lv_aload_n S.1 S.2.1 dX9_steps_0 rfl (lv_at hl 0 rfl) ?_
  refine lv_iload_n S.1 S.2.1 dX9_steps_1 rfl (lv_at hl 1 rfl) ?_
  refine lv_iconst (v := (0)) S.1 S.2.1 dX9_steps_2 (by decide) ?_
  refine b_ai (wr := []) (b_runV (q0 := 0) (ci := 9) (As := [.int a, .int 0]) (s_X9_of l D cI cZ cC cS sq H.size y y_city a (0) m_thrown m_status y_lane y_many y_item y_fresh m_isThere y_tape m_taped m_latest m_length m_cursor m_token m_start m_till m_fault m_faultAt m_seen m_mirrors y_cost y_away y_fee y_goesTo y_priceWas y_isKept y_kept y_trace m_traced cy (by first | with_reducible assumption | assumption | omega | decide | (rw [show Int32.toInt 0 = 0 from rfl]; omega)) (by first | with_reducible assumption | (and_intros <;> first | with_reducible assumption | (intros; refine Int.le_antisymm ?_ ?_ <;> omega) | omega) | assumption | decide | (rw [show Int32.toInt 0 = 0 from rfl]; omega)) (by first | with_reducible assumption | (and_intros <;> first | with_reducible assumption | (intros; refine Int.le_antisymm ?_ ?_ <;> omega) | omega) | assumption | decide | (rw [show Int32.toInt 0 = 0 from rfl]; omega))) S gX9_steps_X9_of rfl hdV_X9_of ⟨Nat.le_of_ble_eq_true rfl, Nat.le_of_ble_eq_true rfl⟩ ⟨Nat.le_of_ble_eq_true rfl, Nat.le_of_ble_eq_true rfl⟩ hK hT hS hA hP hD rfl rfl [0, 1] rfl (by decide) rfl hl.1 rfl (Nat.le_of_ble_eq_true rfl) dX9_steps_3) hP hD hS hA [0, 1] [] rfl rfl (by decide) (by decide) (fun r_1 w_2 H locs hw_3 hP hD hS => ?_)
  obtain ⟨hf_4, hf_5, rfl⟩ := hw_3
  have hf_4 : (((0) : Int) = 0 ∨ ((0) : Int) = 1) → 0 ≤ r_1.toInt ∧ r_1.toInt < 80 := hf_4
  have hf_5 : r_1 = cy (96 + 4 * a.toInt + ((0) : Int)).toNat := hf_5
  have hP : va_P D vwCl [(y, .inr (9, [.int m_thrown, .int m_status, .ref y_lane, .ref y_many, .ref y_item, .ref y_city, .ref y_fresh, .int m_isThere, .ref y_tape, .int m_taped, .int m_latest, .int m_length, .int m_cursor, .int m_token, .int m_start, .int m_till, .int m_fault, .int m_faultAt, .int m_seen, .int m_mirrors, .ref y_cost, .ref y_away, .ref y_fee, .ref y_goesTo, .ref y_priceWas, .ref y_isKept, .ref y_kept, .ref y_trace, .int m_traced])), (y_city, .inl (cI, 192, .inl cy))] H := hP
  have hD : va_D A [(y, .inr (9, [.int m_thrown, .int m_status, .ref y_lane, .ref y_many, .ref y_item, .ref y_city, .ref y_fresh, .int m_isThere, .ref y_tape, .int m_taped, .int m_latest, .int m_length, .int m_cursor, .int m_token, .int m_start, .int m_till, .int m_fault, .int m_faultAt, .int m_seen, .int m_mirrors, .ref y_cost, .ref y_away, .ref y_fee, .ref y_goesTo, .ref y_priceWas, .ref y_isKept, .ref y_kept, .ref y_trace, .int m_traced])), (y_city, .inl (cI, 192, .inl cy))] := hD
  have hr_ : (r_1).toInt = (gg (96 + 4 * a.toInt.toNat)) := by have z := (by assumption : r_1 = cy _); rw [z]; exact (congrArg (fun z => (cy z).toInt) (by show _ = 96 + 4 * a.toInt.toNat; omega)).trans (hcd a.toInt.toNat (by first | (refine Int.le_antisymm ?_ ?_ <;> omega) | omega)).1
  have h0_ : 0 ≤ (r_1).toInt ∧ (r_1).toInt < 80 := by have z := (by assumption : ((0 : Int) = 0 ∨ (0 : Int) = 1) → 0 ≤ (r_1).toInt ∧ (r_1).toInt < 80); exact z (Or.inl rfl)
  refine lv_istore_n (lv' := [(3, .int r_1), (0, .ref y), (1, .int a), (2, .int co)]) S.1 S.2.1 dX9_steps_6 rfl hl (by decide) rfl (fun ls hl => ?_)
  refine lv_iconst (v := (0)) S.1 S.2.1 dX9_steps_7 (by decide) ?_
  refine lv_istore (lv' := [(4, .int 0), (3, .int r_1), (0, .ref y), (1, .int a), (2, .int co)]) S.1 S.2.1 dX9_steps_8 hl (by decide) rfl (fun ls hl => ?_)
  refine lv_iload_n S.1 S.2.1 dX9_steps_10 rfl (lv_at hl 4 rfl) ?_
  refine lv_bipush (v := (8)) S.1 S.2.1 dX9_steps_11 (by decide) ?_
  refine lv_icmp_ge (tgt := 80) S.1 S.2.1 dX9_steps_13 (by decide) (fun c_6 => ?_) (fun c_6 => ?_)
  · rw [le2 (a := 8) (b := co) (A := 8) (B := co.toInt) rfl rfl] at c_6
    have py_ : ((0 : Int32)).toInt = coG gg a.toInt co.toInt ∧ CYd (gaG gg a.toInt co.toInt) cy := by first | exact payY_N hcd (by first | (refine Int.le_antisymm ?_ ?_ <;> omega) | omega) rfl | exact payY_A hcd hr_ (by assumption) (by assumption) (by first | (refine Int.le_antisymm ?_ ?_ <;> omega) | omega) (by first | (refine Int.le_antisymm ?_ ?_ <;> omega) | omega) (by assumption) | exact payY_B (o := (_).toInt) hcd hr_ (by assumption) (by assumption) (by first | (refine Int.le_antisymm ?_ ?_ <;> omega) | omega) (by first | (refine Int.le_antisymm ?_ ?_ <;> omega) | omega) (by assumption) (by first | (refine Int.le_antisymm ?_ ?_ <;> omega) | omega) (by first | (refine Int.le_antisymm ?_ ?_ <;> omega) | omega) (by assumption) (by assumption) (by assumption) (by assumption) (by assumption) (by assumption) (by first | (refine Int.le_antisymm ?_ ?_ <;> omega) | omega) (by first | (refine Int.le_antisymm ?_ ?_ <;> omega) | omega)
    have oy_ : oE stI cy cy := by assumption
    refine lv_aload_n S.1 S.2.1 dX9_steps_80 rfl (lv_at hl 2 rfl) ?_
    refine lv_iload_n S.1 S.2.1 dX9_steps_81 rfl (lv_at hl 1 rfl) ?_
    refine lv_iload_n S.1 S.2.1 dX9_steps_82 rfl (lv_at hl 4 rfl) ?_
    refine lv_bipush (v := (8)) S.1 S.2.1 dX9_steps_83 (by decide) ?_
    refine lv_irem S.1 S.2.1 dX9_steps_85 (by decide) ?_
    refine lv_topi (fun x_7 ex_7 => ?_)
    have tx_7 : x_7.toInt = co.toInt % 8 := remI (A := co.toInt) (B := 8) ex_7 rfl rfl (by  omega) (by decide)
    refine b_ai (wr := []) (b_runV (q0 := 0) (ci := 9) (As := [.int r_1, .int x_7]) (s_X9_nextTo l D cI cZ cC cS sq H.size y y_city r_1 x_7 m_thrown m_status y_lane y_many y_item y_fresh m_isThere y_tape m_taped m_latest m_length m_cursor m_token m_start m_till m_fault m_faultAt m_seen m_mirrors y_cost y_away y_fee y_goesTo y_priceWas y_isKept y_kept y_trace m_traced cy (by first | with_reducible assumption | assumption | omega | decide | (rw [show Int32.toInt 0 = 0 from rfl]; omega)) (by first | with_reducible assumption | (and_intros <;> first | with_reducible assumption | (intros; refine Int.le_antisymm ?_ ?_ <;> omega) | omega) | assumption | decide | (rw [show Int32.toInt 0 = 0 from rfl]; omega)) (by first | with_reducible assumption | (and_intros <;> first | with_reducible assumption | (intros; refine Int.le_antisymm ?_ ?_ <;> omega) | omega) | assumption | decide | (rw [show Int32.toInt 0 = 0 from rfl]; omega))) S gX9_steps_X9_nextTo rfl hdV_X9_nextTo ⟨Nat.le_of_ble_eq_true rfl, Nat.le_of_ble_eq_true rfl⟩ ⟨Nat.le_of_ble_eq_true rfl, Nat.le_of_ble_eq_true rfl⟩ hK hT hS hA hP hD rfl rfl [0, 1] rfl (by decide) rfl hl.1 rfl (Nat.le_of_ble_eq_true rfl) dX9_steps_86) hP hD hS hA [0, 1] [] rfl rfl (by decide) (by decide) (fun r_8 w_9 H locs hw_10 hP hD hS => ?_)
    rcases hw_10 with ⟨hf_11, hf_12, rfl⟩ | ⟨hf_13, rfl, rfl⟩
    · have hP : va_P D vwCl [(y, .inr (9, [.int m_thrown, .int m_status, .ref y_lane, .ref y_many, .ref y_item, .ref y_city, .ref y_fresh, .int m_isThere, .ref y_tape, .int m_taped, .int m_latest, .int m_length, .int m_cursor, .int m_token, .int m_start, .int m_till, .int m_fault, .int m_faultAt, .int m_seen, .int m_mirrors, .ref y_cost, .ref y_away, .ref y_fee, .ref y_goesTo, .ref y_priceWas, .ref y_isKept, .ref y_kept, .ref y_trace, .int m_traced])), (y_city, .inl (cI, 192, .inl cy))] H := hP
      have hD : va_D A [(y, .inr (9, [.int m_thrown, .int m_status, .ref y_lane, .ref y_many, .ref y_item, .ref y_city, .ref y_fresh, .int m_isThere, .ref y_tape, .int m_taped, .int m_latest, .int m_length, .int m_cursor, .int m_token, .int m_start, .int m_till, .int m_fault, .int m_faultAt, .int m_seen, .int m_mirrors, .ref y_cost, .ref y_away, .ref y_fee, .ref y_goesTo, .ref y_priceWas, .ref y_isKept, .ref y_kept, .ref y_trace, .int m_traced])), (y_city, .inl (cI, 192, .inl cy))] := hD
      refine lv_istore (lv' := [(5, .int r_8), (4, .int 0), (3, .int r_1), (0, .ref y), (1, .int a), (2, .int co)]) S.1 S.2.1 dX9_steps_89 hl (by decide) rfl (fun ls hl => ?_)
      refine lv_iload S.1 S.2.1 dX9_steps_91 (lv_at hl 0 rfl) ?_
      refine lv_if_lt (tgt := 123) S.1 S.2.1 dX9_steps_93 (by decide) (fun c_14 => ?_) (fun c_14 => ?_)
      · rw [lt2 (a := r_8) (b := 0) (A := r_8.toInt) (B := 0) rfl rfl] at c_14
        have ga3 := gaG_o (g := gg) (p := a.toInt) (co := co.toInt) (j := 3) hgo (by first | (refine Int.le_antisymm ?_ ?_ <;> omega) | omega) (by first | (refine Int.le_antisymm ?_ ?_ <;> omega) | omega) (by decide)
        have gn3 := gnG_3 (g := (gaG gg a.toInt co.toInt)) (p := a.toInt) (n := (nxT gg (gg (96 + 4 * a.toInt.toNat)) (co.toInt % 8))) (by first | (refine Int.le_antisymm ?_ ?_ <;> omega) | omega)
        have pl_ : CYd (gnG (gaG gg a.toInt co.toInt) a.toInt (nxT gg (gg (96 + 4 * a.toInt.toNat)) (co.toInt % 8))) cy := by first | exact CYd_n0 py_.2 (nxY_n hgy hgb (by rewrite [← hr_]; first | assumption | (have z_ := (by assumption : (_ : Int32).toInt = co.toInt % 8); rewrite [← z_]; assumption) | (have z_ := (by assumption : (_ : Int32).toInt = co.toInt % 8); rewrite [← z_, ← oy_ 0 (by first | (refine Int.le_antisymm ?_ ?_ <;> omega) | omega) (by unfold stI; omega), ← oy_ 1 (by first | (refine Int.le_antisymm ?_ ?_ <;> omega) | omega) (by unfold stI; omega)]; assumption) | omega) (by first | exact Or.inl (by first | (refine Int.le_antisymm ?_ ?_ <;> omega) | omega) | exact Or.inr (by first | (refine Int.le_antisymm ?_ ?_ <;> omega) | omega))) | exact CYd_n py_.2 (by first | (refine Int.le_antisymm ?_ ?_ <;> omega) | omega) (by first | (refine Int.le_antisymm ?_ ?_ <;> omega) | omega) (by assumption) (by first | (refine Int.le_antisymm ?_ ?_ <;> omega) | omega) (nxY_y hgy hgb (by rewrite [← hr_]; first | assumption | (have z_ := (by assumption : (_ : Int32).toInt = co.toInt % 8); rewrite [← z_]; assumption) | (have z_ := (by assumption : (_ : Int32).toInt = co.toInt % 8); rewrite [← z_, ← oy_ 0 (by first | (refine Int.le_antisymm ?_ ?_ <;> omega) | omega) (by unfold stI; omega), ← oy_ 1 (by first | (refine Int.le_antisymm ?_ ?_ <;> omega) | omega) (by unfold stI; omega)]; assumption) | omega) (by first | (refine Int.le_antisymm ?_ ?_ <;> omega) | omega) (by first | (refine Int.le_antisymm ?_ ?_ <;> omega) | omega)) (by have q := nxY_y (r := (r_8).toInt) (k := (gg (96 + 4 * a.toInt.toNat))) (y := co.toInt % 8) hgy hgb (by rewrite [← hr_]; first | assumption | (have z_ := (by assumption : (_ : Int32).toInt = co.toInt % 8); rewrite [← z_]; assumption) | (have z_ := (by assumption : (_ : Int32).toInt = co.toInt % 8); rewrite [← z_, ← oy_ 0 (by first | (refine Int.le_antisymm ?_ ?_ <;> omega) | omega) (by unfold stI; omega), ← oy_ 1 (by first | (refine Int.le_antisymm ?_ ?_ <;> omega) | omega) (by unfold stI; omega)]; assumption) | omega) (by first | (refine Int.le_antisymm ?_ ?_ <;> omega) | omega) (by first | (refine Int.le_antisymm ?_ ?_ <;> omega) | omega); omega)
        refine lv_aload_n S.1 S.2.1 dX9_steps_123 rfl (lv_at hl 3 rfl) ?_
        refine b_get (v := .ref y_city) S iX9 hK hP 0 rfl rfl 5 (by decide) (by decide +kernel) rfl dX9_steps_124 ?_
        refine lv_bipush (v := (96)) S.1 S.2.1 dX9_steps_127 (by decide) ?_
        refine lv_iconst (v := (4)) S.1 S.2.1 dX9_steps_129 (by decide) ?_
        refine lv_iload_n S.1 S.2.1 dX9_steps_130 rfl (lv_at hl 4 rfl) ?_
        refine lv_imul S.1 S.2.1 dX9_steps_131 ?_
        refine lv_topi (fun x_15 ex_15 => ?_)
        have tx_15 : x_15.toInt = 4 * a.toInt := mulI (A := 4) (B := a.toInt) ex_15 rfl rfl (by  omega) (by  omega)
        refine lv_iadd S.1 S.2.1 dX9_steps_132 ?_
        refine lv_topi (fun x_16 ex_16 => ?_)
        have tx_16 : x_16.toInt = 96 + (x_15.toInt) := addI (A := 96) (B := x_15.toInt) ex_16 rfl rfl (by  omega) (by  omega)
        refine lv_iconst (v := (3)) S.1 S.2.1 dX9_steps_133 (by decide) ?_
        refine lv_iadd S.1 S.2.1 dX9_steps_134 ?_
        refine lv_topi (fun x_17 ex_17 => ?_)
        have tx_17 : x_17.toInt = x_16.toInt + (3) := addI (A := x_16.toInt) (B := 3) ex_17 rfl rfl (by  omega) (by  omega)
        refine lv_dup2_11 S.1 S.2.1 dX9_steps_135 rfl rfl ?_
        have hin_18 : vp_in x_17 192 := (in_of (n := 192) (by  omega) (by  omega))
        refine va_iald S.1 S.2.1 hK.1 hP 1 0 rfl rfl hin_18 dX9_steps_136 ?_
        refine lv_topi (fun x_19 ex_19 => ?_)
        refine lv_iconst (v := (1)) S.1 S.2.1 dX9_steps_137 (by decide) ?_
        refine lv_iadd S.1 S.2.1 dX9_steps_138 ?_
        refine lv_topi (fun x_20 ex_20 => ?_)
        refine va_iast S.1 S.2.1 hK.1 hP hD hS 1 0 rfl rfl (in_of (n := 192) (by  omega) (by  omega)) dX9_steps_139 (fun H locs hP hD hS => ?_)
        obtain ⟨f_21, hf_21, rf_21⟩ : ∃ g, (upd cy x_17.toNatClampNeg (x_20)) = g ∧ prd cyK 192 g := ⟨_, rfl, cys_O (i := x_17) (v := x_20) (by assumption) (by first | (refine Int.le_antisymm ?_ ?_ <;> omega) | omega) (by first | (refine Int.le_antisymm ?_ ?_ <;> omega) | omega)⟩
        have of_21 : oE stI cy f_21 := oE_upd (by assumption) hf_21 (by first | (refine Int.le_antisymm ?_ ?_ <;> omega) | omega) (fun j hj hs => by unfold stI at hs; omega)
        have hP : va_P D vwCl [(y, .inr (9, [.int m_thrown, .int m_status, .ref y_lane, .ref y_many, .ref y_item, .ref y_city, .ref y_fresh, .int m_isThere, .ref y_tape, .int m_taped, .int m_latest, .int m_length, .int m_cursor, .int m_token, .int m_start, .int m_till, .int m_fault, .int m_faultAt, .int m_seen, .int m_mirrors, .ref y_cost, .ref y_away, .ref y_fee, .ref y_goesTo, .ref y_priceWas, .ref y_isKept, .ref y_kept, .ref y_trace, .int m_traced])), (y_city, .inl (cI, 192, .inl (upd cy x_17.toNatClampNeg (x_20))))] H := hP
        have hD : va_D A [(y, .inr (9, [.int m_thrown, .int m_status, .ref y_lane, .ref y_many, .ref y_item, .ref y_city, .ref y_fresh, .int m_isThere, .ref y_tape, .int m_taped, .int m_latest, .int m_length, .int m_cursor, .int m_token, .int m_start, .int m_till, .int m_fault, .int m_faultAt, .int m_seen, .int m_mirrors, .ref y_cost, .ref y_away, .ref y_fee, .ref y_goesTo, .ref y_priceWas, .ref y_isKept, .ref y_kept, .ref y_trace, .int m_traced])), (y_city, .inl (cI, 192, .inl (upd cy x_17.toNatClampNeg (x_20))))] := hD
        rw [hf_21] at hP hD
        refine lv_iload S.1 S.2.1 dX9_steps_140 (lv_at hl 1 rfl) ?_
        have lq0 : Int32.toInt (0) = 0 := by decide
        exact b_iret S.1 S.2.1 X.2.1 X.2.2.1 hP hD hS ⟨m_seen, m_mirrors, f_21, (by first | with_reducible assumption | assumption | omega | decide | (rw [show Int32.toInt 0 = 0 from rfl]; omega)), (by first | with_reducible assumption | (and_intros <;> first | with_reducible assumption | (intros; refine Int.le_antisymm ?_ ?_ <;> omega) | omega) | assumption | decide | (rw [show Int32.toInt 0 = 0 from rfl]; omega)), (by first | with_reducible assumption | assumption | omega | decide | (rw [show Int32.toInt 0 = 0 from rfl]; omega)), py_.1, (CYd_s pl_ (by first | (refine Int.le_antisymm ?_ ?_ <;> omega) | omega) (by first | (refine Int.le_antisymm ?_ ?_ <;> omega) | omega) (by assumption) (by assumption) (by assumption) (by first | (refine Int.le_antisymm ?_ ?_ <;> omega) | omega)), rfl⟩ dX9_steps_142
      · rw [lt2 (a := r_8) (b := 0) (A := r_8.toInt) (B := 0) rfl rfl] at c_14
        refine lv_aload_n S.1 S.2.1 dX9_steps_96 rfl (lv_at hl 3 rfl) ?_
        refine b_get (v := .ref y_city) S iX9 hK hP 0 rfl rfl 5 (by decide) (by decide +kernel) rfl dX9_steps_97 ?_
        refine lv_iconst (v := (4)) S.1 S.2.1 dX9_steps_100 (by decide) ?_
        refine lv_iload S.1 S.2.1 dX9_steps_101 (lv_at hl 0 rfl) ?_
        refine lv_iadd S.1 S.2.1 dX9_steps_103 ?_
        refine lv_topi (fun x_22 ex_22 => ?_)
        have tx_22 : x_22.toInt = 4 + (r_8.toInt) := addI (A := 4) (B := r_8.toInt) ex_22 rfl rfl (by  omega) (by  omega)
        have hin_23 : vp_in x_22 192 := (in_of (n := 192) (by  omega) (by  omega))
        refine va_iald S.1 S.2.1 hK.1 hP 1 0 rfl rfl hin_23 dX9_steps_104 ?_
        refine lv_topi (fun x_24 ex_24 => ?_)
        have tx_24 := cyg_A (x := x_24) (show prd cyK 192 cy by assumption) (by first | (refine Int.le_antisymm ?_ ?_ <;> omega) | omega) ex_24
        have cn_ : x_24.toInt = (cy (4 + (r_8).toInt.toNat)).toInt := by rw [ex_24]; exact (congrArg (fun z => (cy z).toInt) (by show (x_22).toInt.toNat = 4 + (r_8).toInt.toNat; omega)).trans (congrArg Int32.toInt (oy_ (4 + (r_8).toInt.toNat) (by first | (refine Int.le_antisymm ?_ ?_ <;> omega) | omega) (by unfold stI; omega)))
        refine lv_bipush (v := (-3)) S.1 S.2.1 dX9_steps_105 (by decide) ?_
        refine lv_icmp_ne (tgt := 123) S.1 S.2.1 dX9_steps_107 (by decide) (fun c_25 => ?_) (fun c_25 => ?_)
        · rw [eq2 (a := x_24) (b := (-3)) (A := x_24.toInt) (B := -3) rfl rfl] at c_25
          have ga3 := gaG_o (g := gg) (p := a.toInt) (co := co.toInt) (j := 3) hgo (by first | (refine Int.le_antisymm ?_ ?_ <;> omega) | omega) (by first | (refine Int.le_antisymm ?_ ?_ <;> omega) | omega) (by decide)
          have gn3 := gnG_3 (g := (gaG gg a.toInt co.toInt)) (p := a.toInt) (n := (nxT gg (gg (96 + 4 * a.toInt.toNat)) (co.toInt % 8))) (by first | (refine Int.le_antisymm ?_ ?_ <;> omega) | omega)
          have pl_ : CYd (gnG (gaG gg a.toInt co.toInt) a.toInt (nxT gg (gg (96 + 4 * a.toInt.toNat)) (co.toInt % 8))) cy := by first | exact CYd_n0 py_.2 (nxY_n hgy hgb (by rewrite [← hr_]; first | assumption | (have z_ := (by assumption : (_ : Int32).toInt = co.toInt % 8); rewrite [← z_]; assumption) | (have z_ := (by assumption : (_ : Int32).toInt = co.toInt % 8); rewrite [← z_, ← oy_ 0 (by first | (refine Int.le_antisymm ?_ ?_ <;> omega) | omega) (by unfold stI; omega), ← oy_ 1 (by first | (refine Int.le_antisymm ?_ ?_ <;> omega) | omega) (by unfold stI; omega)]; assumption) | omega) (by first | exact Or.inl (by first | (refine Int.le_antisymm ?_ ?_ <;> omega) | omega) | exact Or.inr (by first | (refine Int.le_antisymm ?_ ?_ <;> omega) | omega))) | exact CYd_n py_.2 (by first | (refine Int.le_antisymm ?_ ?_ <;> omega) | omega) (by first | (refine Int.le_antisymm ?_ ?_ <;> omega) | omega) (by assumption) (by first | (refine Int.le_antisymm ?_ ?_ <;> omega) | omega) (nxY_y hgy hgb (by rewrite [← hr_]; first | assumption | (have z_ := (by assumption : (_ : Int32).toInt = co.toInt % 8); rewrite [← z_]; assumption) | (have z_ := (by assumption : (_ : Int32).toInt = co.toInt % 8); rewrite [← z_, ← oy_ 0 (by first | (refine Int.le_antisymm ?_ ?_ <;> omega) | omega) (by unfold stI; omega), ← oy_ 1 (by first | (refine Int.le_antisymm ?_ ?_ <;> omega) | omega) (by unfold stI; omega)]; assumption) | omega) (by first | (refine Int.le_antisymm ?_ ?_ <;> omega) | omega) (by first | (refine Int.le_antisymm ?_ ?_ <;> omega) | omega)) (by have q := nxY_y (r := (r_8).toInt) (k := (gg (96 + 4 * a.toInt.toNat))) (y := co.toInt % 8) hgy hgb (by rewrite [← hr_]; first | assumption | (have z_ := (by assumption : (_ : Int32).toInt = co.toInt % 8); rewrite [← z_]; assumption) | (have z_ := (by assumption : (_ : Int32).toInt = co.toInt % 8); rewrite [← z_, ← oy_ 0 (by first | (refine Int.le_antisymm ?_ ?_ <;> omega) | omega) (by unfold stI; omega), ← oy_ 1 (by first | (refine Int.le_antisymm ?_ ?_ <;> omega) | omega) (by unfold stI; omega)]; assumption) | omega) (by first | (refine Int.le_antisymm ?_ ?_ <;> omega) | omega) (by first | (refine Int.le_antisymm ?_ ?_ <;> omega) | omega); omega)
          refine lv_aload_n S.1 S.2.1 dX9_steps_123 rfl (lv_at hl 3 rfl) ?_
          refine b_get (v := .ref y_city) S iX9 hK hP 0 rfl rfl 5 (by decide) (by decide +kernel) rfl dX9_steps_124 ?_
          refine lv_bipush (v := (96)) S.1 S.2.1 dX9_steps_127 (by decide) ?_
          refine lv_iconst (v := (4)) S.1 S.2.1 dX9_steps_129 (by decide) ?_
          refine lv_iload_n S.1 S.2.1 dX9_steps_130 rfl (lv_at hl 4 rfl) ?_
          refine lv_imul S.1 S.2.1 dX9_steps_131 ?_
          refine lv_topi (fun x_26 ex_26 => ?_)
          have tx_26 : x_26.toInt = 4 * a.toInt := mulI (A := 4) (B := a.toInt) ex_26 rfl rfl (by  omega) (by  omega)
          refine lv_iadd S.1 S.2.1 dX9_steps_132 ?_
          refine lv_topi (fun x_27 ex_27 => ?_)
          have tx_27 : x_27.toInt = 96 + (x_26.toInt) := addI (A := 96) (B := x_26.toInt) ex_27 rfl rfl (by  omega) (by  omega)
          refine lv_iconst (v := (3)) S.1 S.2.1 dX9_steps_133 (by decide) ?_
          refine lv_iadd S.1 S.2.1 dX9_steps_134 ?_
          refine lv_topi (fun x_28 ex_28 => ?_)
          have tx_28 : x_28.toInt = x_27.toInt + (3) := addI (A := x_27.toInt) (B := 3) ex_28 rfl rfl (by  omega) (by  omega)
          refine lv_dup2_11 S.1 S.2.1 dX9_steps_135 rfl rfl ?_
          have hin_29 : vp_in x_28 192 := (in_of (n := 192) (by  omega) (by  omega))
          refine va_iald S.1 S.2.1 hK.1 hP 1 0 rfl rfl hin_29 dX9_steps_136 ?_
          refine lv_topi (fun x_30 ex_30 => ?_)
          refine lv_iconst (v := (1)) S.1 S.2.1 dX9_steps_137 (by decide) ?_
          refine lv_iadd S.1 S.2.1 dX9_steps_138 ?_
          refine lv_topi (fun x_31 ex_31 => ?_)
          refine va_iast S.1 S.2.1 hK.1 hP hD hS 1 0 rfl rfl (in_of (n := 192) (by  omega) (by  omega)) dX9_steps_139 (fun H locs hP hD hS => ?_)
          obtain ⟨f_32, hf_32, rf_32⟩ : ∃ g, (upd cy x_28.toNatClampNeg (x_31)) = g ∧ prd cyK 192 g := ⟨_, rfl, cys_O (i := x_28) (v := x_31) (by assumption) (by first | (refine Int.le_antisymm ?_ ?_ <;> omega) | omega) (by first | (refine Int.le_antisymm ?_ ?_ <;> omega) | omega)⟩
          have of_32 : oE stI cy f_32 := oE_upd (by assumption) hf_32 (by first | (refine Int.le_antisymm ?_ ?_ <;> omega) | omega) (fun j hj hs => by unfold stI at hs; omega)
          have hP : va_P D vwCl [(y, .inr (9, [.int m_thrown, .int m_status, .ref y_lane, .ref y_many, .ref y_item, .ref y_city, .ref y_fresh, .int m_isThere, .ref y_tape, .int m_taped, .int m_latest, .int m_length, .int m_cursor, .int m_token, .int m_start, .int m_till, .int m_fault, .int m_faultAt, .int m_seen, .int m_mirrors, .ref y_cost, .ref y_away, .ref y_fee, .ref y_goesTo, .ref y_priceWas, .ref y_isKept, .ref y_kept, .ref y_trace, .int m_traced])), (y_city, .inl (cI, 192, .inl (upd cy x_28.toNatClampNeg (x_31))))] H := hP
          have hD : va_D A [(y, .inr (9, [.int m_thrown, .int m_status, .ref y_lane, .ref y_many, .ref y_item, .ref y_city, .ref y_fresh, .int m_isThere, .ref y_tape, .int m_taped, .int m_latest, .int m_length, .int m_cursor, .int m_token, .int m_start, .int m_till, .int m_fault, .int m_faultAt, .int m_seen, .int m_mirrors, .ref y_cost, .ref y_away, .ref y_fee, .ref y_goesTo, .ref y_priceWas, .ref y_isKept, .ref y_kept, .ref y_trace, .int m_traced])), (y_city, .inl (cI, 192, .inl (upd cy x_28.toNatClampNeg (x_31))))] := hD
          rw [hf_32] at hP hD
          refine lv_iload S.1 S.2.1 dX9_steps_140 (lv_at hl 1 rfl) ?_
          have lq0 : Int32.toInt (0) = 0 := by decide
          exact b_iret S.1 S.2.1 X.2.1 X.2.2.1 hP hD hS ⟨m_seen, m_mirrors, f_32, (by first | with_reducible assumption | assumption | omega | decide | (rw [show Int32.toInt 0 = 0 from rfl]; omega)), (by first | with_reducible assumption | (and_intros <;> first | with_reducible assumption | (intros; refine Int.le_antisymm ?_ ?_ <;> omega) | omega) | assumption | decide | (rw [show Int32.toInt 0 = 0 from rfl]; omega)), (by first | with_reducible assumption | assumption | omega | decide | (rw [show Int32.toInt 0 = 0 from rfl]; omega)), py_.1, (CYd_s pl_ (by first | (refine Int.le_antisymm ?_ ?_ <;> omega) | omega) (by first | (refine Int.le_antisymm ?_ ?_ <;> omega) | omega) (by assumption) (by assumption) (by assumption) (by first | (refine Int.le_antisymm ?_ ?_ <;> omega) | omega)), rfl⟩ dX9_steps_142
        · rw [eq2 (a := x_24) (b := (-3)) (A := x_24.toInt) (B := -3) rfl rfl] at c_25
          refine lv_aload_n S.1 S.2.1 dX9_steps_110 rfl (lv_at hl 3 rfl) ?_
          refine b_get (v := .ref y_city) S iX9 hK hP 0 rfl rfl 5 (by decide) (by decide +kernel) rfl dX9_steps_111 ?_
          refine lv_bipush (v := (96)) S.1 S.2.1 dX9_steps_114 (by decide) ?_
          refine lv_iconst (v := (4)) S.1 S.2.1 dX9_steps_116 (by decide) ?_
          refine lv_iload_n S.1 S.2.1 dX9_steps_117 rfl (lv_at hl 4 rfl) ?_
          refine lv_imul S.1 S.2.1 dX9_steps_118 ?_
          refine lv_topi (fun x_33 ex_33 => ?_)
          have tx_33 : x_33.toInt = 4 * a.toInt := mulI (A := 4) (B := a.toInt) ex_33 rfl rfl (by  omega) (by  omega)
          refine lv_iadd S.1 S.2.1 dX9_steps_119 ?_
          refine lv_topi (fun x_34 ex_34 => ?_)
          have tx_34 : x_34.toInt = 96 + (x_33.toInt) := addI (A := 96) (B := x_33.toInt) ex_34 rfl rfl (by  omega) (by  omega)
          refine lv_iload S.1 S.2.1 dX9_steps_120 (lv_at hl 0 rfl) ?_
          refine va_iast S.1 S.2.1 hK.1 hP hD hS 1 0 rfl rfl (in_of (n := 192) (by  omega) (by  omega)) dX9_steps_122 (fun H locs hP hD hS => ?_)
          obtain ⟨f_35, hf_35, rf_35⟩ : ∃ g, (upd cy x_34.toNatClampNeg (r_8)) = g ∧ prd cyK 192 g := ⟨_, rfl, cys_O (i := x_34) (v := r_8) (by assumption) (by first | (refine Int.le_antisymm ?_ ?_ <;> omega) | omega) (by first | (refine Int.le_antisymm ?_ ?_ <;> omega) | omega)⟩
          have of_35 : oE stI cy f_35 := oE_upd (by assumption) hf_35 (by first | (refine Int.le_antisymm ?_ ?_ <;> omega) | omega) (fun j hj hs => by unfold stI at hs; omega)
          have hP : va_P D vwCl [(y, .inr (9, [.int m_thrown, .int m_status, .ref y_lane, .ref y_many, .ref y_item, .ref y_city, .ref y_fresh, .int m_isThere, .ref y_tape, .int m_taped, .int m_latest, .int m_length, .int m_cursor, .int m_token, .int m_start, .int m_till, .int m_fault, .int m_faultAt, .int m_seen, .int m_mirrors, .ref y_cost, .ref y_away, .ref y_fee, .ref y_goesTo, .ref y_priceWas, .ref y_isKept, .ref y_kept, .ref y_trace, .int m_traced])), (y_city, .inl (cI, 192, .inl (upd cy x_34.toNatClampNeg (r_8))))] H := hP
          have hD : va_D A [(y, .inr (9, [.int m_thrown, .int m_status, .ref y_lane, .ref y_many, .ref y_item, .ref y_city, .ref y_fresh, .int m_isThere, .ref y_tape, .int m_taped, .int m_latest, .int m_length, .int m_cursor, .int m_token, .int m_start, .int m_till, .int m_fault, .int m_faultAt, .int m_seen, .int m_mirrors, .ref y_cost, .ref y_away, .ref y_fee, .ref y_goesTo, .ref y_priceWas, .ref y_isKept, .ref y_kept, .ref y_trace, .int m_traced])), (y_city, .inl (cI, 192, .inl (upd cy x_34.toNatClampNeg (r_8))))] := hD
          rw [hf_35] at hP hD
          have ga3 := gaG_o (g := gg) (p := a.toInt) (co := co.toInt) (j := 3) hgo (by first | (refine Int.le_antisymm ?_ ?_ <;> omega) | omega) (by first | (refine Int.le_antisymm ?_ ?_ <;> omega) | omega) (by decide)
          have gn3 := gnG_3 (g := (gaG gg a.toInt co.toInt)) (p := a.toInt) (n := (nxT gg (gg (96 + 4 * a.toInt.toNat)) (co.toInt % 8))) (by first | (refine Int.le_antisymm ?_ ?_ <;> omega) | omega)
          have pl_ : CYd (gnG (gaG gg a.toInt co.toInt) a.toInt (nxT gg (gg (96 + 4 * a.toInt.toNat)) (co.toInt % 8))) f_35 := by first | exact CYd_n0 py_.2 (nxY_n hgy hgb (by rewrite [← hr_]; first | assumption | (have z_ := (by assumption : (_ : Int32).toInt = co.toInt % 8); rewrite [← z_]; assumption) | (have z_ := (by assumption : (_ : Int32).toInt = co.toInt % 8); rewrite [← z_, ← oy_ 0 (by first | (refine Int.le_antisymm ?_ ?_ <;> omega) | omega) (by unfold stI; omega), ← oy_ 1 (by first | (refine Int.le_antisymm ?_ ?_ <;> omega) | omega) (by unfold stI; omega)]; assumption) | omega) (by first | exact Or.inl (by first | (refine Int.le_antisymm ?_ ?_ <;> omega) | omega) | exact Or.inr (by first | (refine Int.le_antisymm ?_ ?_ <;> omega) | omega))) | exact CYd_n py_.2 (by first | (refine Int.le_antisymm ?_ ?_ <;> omega) | omega) (by first | (refine Int.le_antisymm ?_ ?_ <;> omega) | omega) (by assumption) (by first | (refine Int.le_antisymm ?_ ?_ <;> omega) | omega) (nxY_y hgy hgb (by rewrite [← hr_]; first | assumption | (have z_ := (by assumption : (_ : Int32).toInt = co.toInt % 8); rewrite [← z_]; assumption) | (have z_ := (by assumption : (_ : Int32).toInt = co.toInt % 8); rewrite [← z_, ← oy_ 0 (by first | (refine Int.le_antisymm ?_ ?_ <;> omega) | omega) (by unfold stI; omega), ← oy_ 1 (by first | (refine Int.le_antisymm ?_ ?_ <;> omega) | omega) (by unfold stI; omega)]; assumption) | omega) (by first | (refine Int.le_antisymm ?_ ?_ <;> omega) | omega) (by first | (refine Int.le_antisymm ?_ ?_ <;> omega) | omega)) (by have q := nxY_y (r := (r_8).toInt) (k := (gg (96 + 4 * a.toInt.toNat))) (y := co.toInt % 8) hgy hgb (by rewrite [← hr_]; first | assumption | (have z_ := (by assumption : (_ : Int32).toInt = co.toInt % 8); rewrite [← z_]; assumption) | (have z_ := (by assumption : (_ : Int32).toInt = co.toInt % 8); rewrite [← z_, ← oy_ 0 (by first | (refine Int.le_antisymm ?_ ?_ <;> omega) | omega) (by unfold stI; omega), ← oy_ 1 (by first | (refine Int.le_antisymm ?_ ?_ <;> omega) | omega) (by unfold stI; omega)]; assumption) | omega) (by first | (refine Int.le_antisymm ?_ ?_ <;> omega) | omega) (by first | (refine Int.le_antisymm ?_ ?_ <;> omega) | omega); omega)
          refine lv_aload_n S.1 S.2.1 dX9_steps_123 rfl (lv_at hl 3 rfl) ?_
          refine b_get (v := .ref y_city) S iX9 hK hP 0 rfl rfl 5 (by decide) (by decide +kernel) rfl dX9_steps_124 ?_
          refine lv_bipush (v := (96)) S.1 S.2.1 dX9_steps_127 (by decide) ?_
          refine lv_iconst (v := (4)) S.1 S.2.1 dX9_steps_129 (by decide) ?_
          refine lv_iload_n S.1 S.2.1 dX9_steps_130 rfl (lv_at hl 4 rfl) ?_
          refine lv_imul S.1 S.2.1 dX9_steps_131 ?_
          refine lv_topi (fun x_36 ex_36 => ?_)
          have tx_36 : x_36.toInt = 4 * a.toInt := mulI (A := 4) (B := a.toInt) ex_36 rfl rfl (by  omega) (by  omega)
          refine lv_iadd S.1 S.2.1 dX9_steps_132 ?_
          refine lv_topi (fun x_37 ex_37 => ?_)
          have tx_37 : x_37.toInt = 96 + (x_36.toInt) := addI (A := 96) (B := x_36.toInt) ex_37 rfl rfl (by  omega) (by  omega)
          refine lv_iconst (v := (3)) S.1 S.2.1 dX9_steps_133 (by decide) ?_
          refine lv_iadd S.1 S.2.1 dX9_steps_134 ?_
          refine lv_topi (fun x_38 ex_38 => ?_)
          have tx_38 : x_38.toInt = x_37.toInt + (3) := addI (A := x_37.toInt) (B := 3) ex_38 rfl rfl (by  omega) (by  omega)
          refine lv_dup2_11 S.1 S.2.1 dX9_steps_135 rfl rfl ?_
          have hin_39 : vp_in x_38 192 := (in_of (n := 192) (by  omega) (by  omega))
          refine va_iald S.1 S.2.1 hK.1 hP 1 0 rfl rfl hin_39 dX9_steps_136 ?_
          refine lv_topi (fun x_40 ex_40 => ?_)
          refine lv_iconst (v := (1)) S.1 S.2.1 dX9_steps_137 (by decide) ?_
          refine lv_iadd S.1 S.2.1 dX9_steps_138 ?_
          refine lv_topi (fun x_41 ex_41 => ?_)
          refine va_iast S.1 S.2.1 hK.1 hP hD hS 1 0 rfl rfl (in_of (n := 192) (by  omega) (by  omega)) dX9_steps_139 (fun H locs hP hD hS => ?_)
          obtain ⟨f_42, hf_42, rf_42⟩ : ∃ g, (upd f_35 x_38.toNatClampNeg (x_41)) = g ∧ prd cyK 192 g := ⟨_, rfl, cys_O (i := x_38) (v := x_41) (by assumption) (by first | (refine Int.le_antisymm ?_ ?_ <;> omega) | omega) (by first | (refine Int.le_antisymm ?_ ?_ <;> omega) | omega)⟩
          have of_42 : oE stI cy f_42 := oE_upd (by assumption) hf_42 (by first | (refine Int.le_antisymm ?_ ?_ <;> omega) | omega) (fun j hj hs => by unfold stI at hs; omega)
          have hP : va_P D vwCl [(y, .inr (9, [.int m_thrown, .int m_status, .ref y_lane, .ref y_many, .ref y_item, .ref y_city, .ref y_fresh, .int m_isThere, .ref y_tape, .int m_taped, .int m_latest, .int m_length, .int m_cursor, .int m_token, .int m_start, .int m_till, .int m_fault, .int m_faultAt, .int m_seen, .int m_mirrors, .ref y_cost, .ref y_away, .ref y_fee, .ref y_goesTo, .ref y_priceWas, .ref y_isKept, .ref y_kept, .ref y_trace, .int m_traced])), (y_city, .inl (cI, 192, .inl (upd f_35 x_38.toNatClampNeg (x_41))))] H := hP
          have hD : va_D A [(y, .inr (9, [.int m_thrown, .int m_status, .ref y_lane, .ref y_many, .ref y_item, .ref y_city, .ref y_fresh, .int m_isThere, .ref y_tape, .int m_taped, .int m_latest, .int m_length, .int m_cursor, .int m_token, .int m_start, .int m_till, .int m_fault, .int m_faultAt, .int m_seen, .int m_mirrors, .ref y_cost, .ref y_away, .ref y_fee, .ref y_goesTo, .ref y_priceWas, .ref y_isKept, .ref y_kept, .ref y_trace, .int m_traced])), (y_city, .inl (cI, 192, .inl (upd f_35 x_38.toNatClampNeg (x_41))))] := hD
          rw [hf_42] at hP hD
          refine lv_iload S.1 S.2.1 dX9_steps_140 (lv_at hl 1 rfl) ?_
          have lq0 : Int32.toInt (0) = 0 := by decide
          exact b_iret S.1 S.2.1 X.2.1 X.2.2.1 hP hD hS ⟨m_seen, m_mirrors, f_42, (by first | with_reducible assumption | assumption | omega | decide | (rw [show Int32.toInt 0 = 0 from rfl]; omega)), (by first | with_reducible assumption | (and_intros <;> first | with_reducible assumption | (intros; refine Int.le_antisymm ?_ ?_ <;> omega) | omega) | assumption | decide | (rw [show Int32.toInt 0 = 0 from rfl]; omega)), (by first | with_reducible assumption | assumption | omega | decide | (rw [show Int32.toInt 0 = 0 from rfl]; omega)), py_.1, (CYd_s pl_ (by first | (refine Int.le_antisymm ?_ ?_ <;> omega) | omega) (by first | (refine Int.le_antisymm ?_ ?_ <;> omega) | omega) (by assumption) (by assumption) (by assumption) (by first | (refine Int.le_antisymm ?_ ?_ <;> omega) | omega)), rfl⟩ dX9_steps_142
    · have hP : va_P D vwCl [(y, .inr (9, [.int m_thrown, .int m_status, .ref y_lane, .ref y_many, .ref y_item, .ref y_city, .ref y_fresh, .int m_isThere, .ref y_tape, .int m_taped, .int m_latest, .int m_length, .int m_cursor, .int m_token, .int m_start, .int m_till, .int m_fault, .int m_faultAt, .int m_seen, .int m_mirrors, .ref y_cost, .ref y_away, .ref y_fee, .ref y_goesTo, .ref y_priceWas, .ref y_isKept, .ref y_kept, .ref y_trace, .int m_traced])), (y_city, .inl (cI, 192, .inl cy))] H := hP
      have hD : va_D A [(y, .inr (9, [.int m_thrown, .int m_status, .ref y_lane, .ref y_many, .ref y_item, .ref y_city, .ref y_fresh, .int m_isThere, .ref y_tape, .int m_taped, .int m_latest, .int m_length, .int m_cursor, .int m_token, .int m_start, .int m_till, .int m_fault, .int m_faultAt, .int m_seen, .int m_mirrors, .ref y_cost, .ref y_away, .ref y_fee, .ref y_goesTo, .ref y_priceWas, .ref y_isKept, .ref y_kept, .ref y_trace, .int m_traced])), (y_city, .inl (cI, 192, .inl cy))] := hD
      refine lv_istore (lv' := [(5, .int (-1)), (4, .int 0), (3, .int r_1), (0, .ref y), (1, .int a), (2, .int co)]) S.1 S.2.1 dX9_steps_89 hl (by decide) rfl (fun ls hl => ?_)
      refine lv_iload S.1 S.2.1 dX9_steps_91 (lv_at hl 0 rfl) ?_
      refine lv_if_lt (tgt := 123) S.1 S.2.1 dX9_steps_93 (by decide) (fun c_43 => ?_) (fun c_43 => absurd c_43 (by decide))
      have ga3 := gaG_o (g := gg) (p := a.toInt) (co := co.toInt) (j := 3) hgo (by first | (refine Int.le_antisymm ?_ ?_ <;> omega) | omega) (by first | (refine Int.le_antisymm ?_ ?_ <;> omega) | omega) (by decide)
      have gn3 := gnG_3 (g := (gaG gg a.toInt co.toInt)) (p := a.toInt) (n := (nxT gg (gg (96 + 4 * a.toInt.toNat)) (co.toInt % 8))) (by first | (refine Int.le_antisymm ?_ ?_ <;> omega) | omega)
      have pl_ : CYd (gnG (gaG gg a.toInt co.toInt) a.toInt (nxT gg (gg (96 + 4 * a.toInt.toNat)) (co.toInt % 8))) cy := by first | exact CYd_n0 py_.2 (nxY_n hgy hgb (by rewrite [← hr_]; first | assumption | (have z_ := (by assumption : (_ : Int32).toInt = co.toInt % 8); rewrite [← z_]; assumption) | (have z_ := (by assumption : (_ : Int32).toInt = co.toInt % 8); rewrite [← z_, ← oy_ 0 (by first | (refine Int.le_antisymm ?_ ?_ <;> omega) | omega) (by unfold stI; omega), ← oy_ 1 (by first | (refine Int.le_antisymm ?_ ?_ <;> omega) | omega) (by unfold stI; omega)]; assumption) | omega) (by first | exact Or.inl (by first | (refine Int.le_antisymm ?_ ?_ <;> omega) | omega) | exact Or.inr (by first | (refine Int.le_antisymm ?_ ?_ <;> omega) | omega))) | exact CYd_n py_.2 (by first | (refine Int.le_antisymm ?_ ?_ <;> omega) | omega) (by first | (refine Int.le_antisymm ?_ ?_ <;> omega) | omega) (by assumption) (by first | (refine Int.le_antisymm ?_ ?_ <;> omega) | omega) (nxY_y hgy hgb (by rewrite [← hr_]; first | assumption | (have z_ := (by assumption : (_ : Int32).toInt = co.toInt % 8); rewrite [← z_]; assumption) | (have z_ := (by assumption : (_ : Int32).toInt = co.toInt % 8); rewrite [← z_, ← oy_ 0 (by first | (refine Int.le_antisymm ?_ ?_ <;> omega) | omega) (by unfold stI; omega), ← oy_ 1 (by first | (refine Int.le_antisymm ?_ ?_ <;> omega) | omega) (by unfold stI; omega)]; assumption) | omega) (by first | (refine Int.le_antisymm ?_ ?_ <;> omega) | omega) (by first | (refine Int.le_antisymm ?_ ?_ <;> omega) | omega)) (by have q := nxY_y (r := ((-1 : Int32)).toInt) (k := (gg (96 + 4 * a.toInt.toNat))) (y := co.toInt % 8) hgy hgb (by rewrite [← hr_]; first | assumption | (have z_ := (by assumption : (_ : Int32).toInt = co.toInt % 8); rewrite [← z_]; assumption) | (have z_ := (by assumption : (_ : Int32).toInt = co.toInt % 8); rewrite [← z_, ← oy_ 0 (by first | (refine Int.le_antisymm ?_ ?_ <;> omega) | omega) (by unfold stI; omega), ← oy_ 1 (by first | (refine Int.le_antisymm ?_ ?_ <;> omega) | omega) (by unfold stI; omega)]; assumption) | omega) (by first | (refine Int.le_antisymm ?_ ?_ <;> omega) | omega) (by first | (refine Int.le_antisymm ?_ ?_ <;> omega) | omega); omega)
      refine lv_aload_n S.1 S.2.1 dX9_steps_123 rfl (lv_at hl 3 rfl) ?_
      refine b_get (v := .ref y_city) S iX9 hK hP 0 rfl rfl 5 (by decide) (by decide +kernel) rfl dX9_steps_124 ?_
      refine lv_bipush (v := (96)) S.1 S.2.1 dX9_steps_127 (by decide) ?_
      refine lv_iconst (v := (4)) S.1 S.2.1 dX9_steps_129 (by decide) ?_
      refine lv_iload_n S.1 S.2.1 dX9_steps_130 rfl (lv_at hl 4 rfl) ?_
      refine lv_imul S.1 S.2.1 dX9_steps_131 ?_
      refine lv_topi (fun x_44 ex_44 => ?_)
      have tx_44 : x_44.toInt = 4 * a.toInt := mulI (A := 4) (B := a.toInt) ex_44 rfl rfl (by  omega) (by  omega)
      refine lv_iadd S.1 S.2.1 dX9_steps_132 ?_
      refine lv_topi (fun x_45 ex_45 => ?_)
      have tx_45 : x_45.toInt = 96 + (x_44.toInt) := addI (A := 96) (B := x_44.toInt) ex_45 rfl rfl (by  omega) (by  omega)
      refine lv_iconst (v := (3)) S.1 S.2.1 dX9_steps_133 (by decide) ?_
      refine lv_iadd S.1 S.2.1 dX9_steps_134 ?_
      refine lv_topi (fun x_46 ex_46 => ?_)
      have tx_46 : x_46.toInt = x_45.toInt + (3) := addI (A := x_45.toInt) (B := 3) ex_46 rfl rfl (by  omega) (by  omega)
      refine lv_dup2_11 S.1 S.2.1 dX9_steps_135 rfl rfl ?_
      have hin_47 : vp_in x_46 192 := (in_of (n := 192) (by  omega) (by  omega))
      refine va_iald S.1 S.2.1 hK.1 hP 1 0 rfl rfl hin_47 dX9_steps_136 ?_
      refine lv_topi (fun x_48 ex_48 => ?_)
      refine lv_iconst (v := (1)) S.1 S.2.1 dX9_steps_137 (by decide) ?_
      refine lv_iadd S.1 S.2.1 dX9_steps_138 ?_
      refine lv_topi (fun x_49 ex_49 => ?_)
      refine va_iast S.1 S.2.1 hK.1 hP hD hS 1 0 rfl rfl (in_of (n := 192) (by  omega) (by  omega)) dX9_steps_139 (fun H locs hP hD hS => ?_)
      obtain ⟨f_50, hf_50, rf_50⟩ : ∃ g, (upd cy x_46.toNatClampNeg (x_49)) = g ∧ prd cyK 192 g := ⟨_, rfl, cys_O (i := x_46) (v := x_49) (by assumption) (by first | (refine Int.le_antisymm ?_ ?_ <;> omega) | omega) (by first | (refine Int.le_antisymm ?_ ?_ <;> omega) | omega)⟩
      have of_50 : oE stI cy f_50 := oE_upd (by assumption) hf_50 (by first | (refine Int.le_antisymm ?_ ?_ <;> omega) | omega) (fun j hj hs => by unfold stI at hs; omega)
      have hP : va_P D vwCl [(y, .inr (9, [.int m_thrown, .int m_status, .ref y_lane, .ref y_many, .ref y_item, .ref y_city, .ref y_fresh, .int m_isThere, .ref y_tape, .int m_taped, .int m_latest, .int m_length, .int m_cursor, .int m_token, .int m_start, .int m_till, .int m_fault, .int m_faultAt, .int m_seen, .int m_mirrors, .ref y_cost, .ref y_away, .ref y_fee, .ref y_goesTo, .ref y_priceWas, .ref y_isKept, .ref y_kept, .ref y_trace, .int m_traced])), (y_city, .inl (cI, 192, .inl (upd cy x_46.toNatClampNeg (x_49))))] H := hP
      have hD : va_D A [(y, .inr (9, [.int m_thrown, .int m_status, .ref y_lane, .ref y_many, .ref y_item, .ref y_city, .ref y_fresh, .int m_isThere, .ref y_tape, .int m_taped, .int m_latest, .int m_length, .int m_cursor, .int m_token, .int m_start, .int m_till, .int m_fault, .int m_faultAt, .int m_seen, .int m_mirrors, .ref y_cost, .ref y_away, .ref y_fee, .ref y_goesTo, .ref y_priceWas, .ref y_isKept, .ref y_kept, .ref y_trace, .int m_traced])), (y_city, .inl (cI, 192, .inl (upd cy x_46.toNatClampNeg (x_49))))] := hD
      rw [hf_50] at hP hD
      refine lv_iload S.1 S.2.1 dX9_steps_140 (lv_at hl 1 rfl) ?_
      have lq0 : Int32.toInt (0) = 0 := by decide
      exact b_iret S.1 S.2.1 X.2.1 X.2.2.1 hP hD hS ⟨m_seen, m_mirrors, f_50, (by first | with_reducible assumption | assumption | omega | decide | (rw [show Int32.toInt 0 = 0 from rfl]; omega)), (by first | with_reducible assumption | (and_intros <;> first | with_reducible assumption | (intros; refine Int.le_antisymm ?_ ?_ <;> omega) | omega) | assumption | decide | (rw [show Int32.toInt 0 = 0 from rfl]; omega)), (by first | with_reducible assumption | assumption | omega | decide | (rw [show Int32.toInt 0 = 0 from rfl]; omega)), py_.1, (CYd_s pl_ (by first | (refine Int.le_antisymm ?_ ?_ <;> omega) | omega) (by first | (refine Int.le_antisymm ?_ ?_ <;> omega) | omega) (by assumption) (by assumption) (by assumption) (by first | (refine Int.le_antisymm ?_ ?_ <;> omega) | omega)), rfl⟩ dX9_steps_142
  · rw [le2 (a := 8) (b := co) (A := 8) (B := co.toInt) rfl rfl] at c_6
    refine lv_aload_n S.1 S.2.1 dX9_steps_16 rfl (lv_at hl 2 rfl) ?_
    refine lv_iload_n S.1 S.2.1 dX9_steps_17 rfl (lv_at hl 1 rfl) ?_
    refine lv_iload_n S.1 S.2.1 dX9_steps_18 rfl (lv_at hl 4 rfl) ?_
    refine b_av (wr := []) (b_runV (q0 := 0) (ci := 9) (As := [.int r_1, .int co]) (s_X9_lookFrom_x l D cI cZ cC cS sq H.size y y_city r_1 co m_thrown m_status y_lane y_many y_item y_fresh m_isThere y_tape m_taped m_latest m_length m_cursor m_token m_start m_till m_fault m_faultAt m_seen m_mirrors y_cost y_away y_fee y_goesTo y_priceWas y_isKept y_kept y_trace m_traced cy _ (by first | with_reducible assumption | assumption | omega | decide | (rw [show Int32.toInt 0 = 0 from rfl]; omega)) (by first | with_reducible assumption | (and_intros <;> first | with_reducible assumption | (intros; refine Int.le_antisymm ?_ ?_ <;> omega) | omega) | assumption | decide | (rw [show Int32.toInt 0 = 0 from rfl]; omega)) (by first | with_reducible assumption | (and_intros <;> first | with_reducible assumption | (intros; refine Int.le_antisymm ?_ ?_ <;> omega) | omega) | assumption | decide | (rw [show Int32.toInt 0 = 0 from rfl]; omega)) (by first | with_reducible assumption | assumption | omega | decide | (rw [show Int32.toInt 0 = 0 from rfl]; omega)) (by first | with_reducible assumption | assumption | omega | decide | (rw [show Int32.toInt 0 = 0 from rfl]; omega))) S gX9_steps_X9_lookFrom rfl hdV_X9_lookFrom ⟨Nat.le_of_ble_eq_true rfl, Nat.le_of_ble_eq_true rfl⟩ ⟨Nat.le_of_ble_eq_true rfl, Nat.le_of_ble_eq_true rfl⟩ hK hT hS hA hP hD rfl rfl [0, 1] rfl (by decide) rfl hl.1 rfl (Nat.le_of_ble_eq_true rfl) dX9_steps_19) hP hD hS hA [0, 1] [] rfl rfl (by decide) (by decide) (fun w_52 H locs hw_53 hP hD hS => ?_)
    obtain ⟨m_seen2_54, m_mirrors2_55, hf_56, hf_57, hf_58, rfl⟩ := hw_53
    have hP : va_P D vwCl [(y, .inr (9, [.int m_thrown, .int m_status, .ref y_lane, .ref y_many, .ref y_item, .ref y_city, .ref y_fresh, .int m_isThere, .ref y_tape, .int m_taped, .int m_latest, .int m_length, .int m_cursor, .int m_token, .int m_start, .int m_till, .int m_fault, .int m_faultAt, .int m_seen2_54, .int m_mirrors2_55, .ref y_cost, .ref y_away, .ref y_fee, .ref y_goesTo, .ref y_priceWas, .ref y_isKept, .ref y_kept, .ref y_trace, .int m_traced])), (y_city, .inl (cI, 192, .inl cy))] H := hP
    have hD : va_D A [(y, .inr (9, [.int m_thrown, .int m_status, .ref y_lane, .ref y_many, .ref y_item, .ref y_city, .ref y_fresh, .int m_isThere, .ref y_tape, .int m_taped, .int m_latest, .int m_length, .int m_cursor, .int m_token, .int m_start, .int m_till, .int m_fault, .int m_faultAt, .int m_seen2_54, .int m_mirrors2_55, .ref y_cost, .ref y_away, .ref y_fee, .ref y_goesTo, .ref y_priceWas, .ref y_isKept, .ref y_kept, .ref y_trace, .int m_traced])), (y_city, .inl (cI, 192, .inl cy))] := hD
    refine lv_aload_n S.1 S.2.1 dX9_steps_22 rfl (lv_at hl 2 rfl) ?_
    refine b_ai (wr := []) (b_runV (q0 := 0) (ci := 9) (As := []) (s_X9_ownerSeen_x l D cI cZ cC cS sq H.size y y_city m_thrown m_status y_lane y_many y_item y_fresh m_isThere y_tape m_taped m_latest m_length m_cursor m_token m_start m_till m_fault m_faultAt m_seen2_54 m_mirrors2_55 y_cost y_away y_fee y_goesTo y_priceWas y_isKept y_kept y_trace m_traced cy _ (by first | with_reducible assumption | assumption | omega | decide | (rw [show Int32.toInt 0 = 0 from rfl]; omega)) (by first | with_reducible assumption | (and_intros <;> first | with_reducible assumption | (intros; refine Int.le_antisymm ?_ ?_ <;> omega) | omega) | assumption | decide | (rw [show Int32.toInt 0 = 0 from rfl]; omega)) (by first | with_reducible assumption | assumption | omega | decide | (rw [show Int32.toInt 0 = 0 from rfl]; omega)) (by first | with_reducible assumption | assumption | omega | decide | (rw [show Int32.toInt 0 = 0 from rfl]; omega)) (by first | assumption | (have z_ := (by assumption : _ = lkS gg _ _); rw [z_]; exact lk_in hgb (by first | (refine Int.le_antisymm ?_ ?_ <;> omega) | omega)))) S gX9_steps_X9_ownerSeen rfl hdV_X9_ownerSeen ⟨Nat.le_of_ble_eq_true rfl, Nat.le_of_ble_eq_true rfl⟩ ⟨Nat.le_of_ble_eq_true rfl, Nat.le_of_ble_eq_true rfl⟩ hK hT hS hA hP hD rfl rfl [0, 1] rfl (by decide) rfl hl.1 rfl (Nat.le_of_ble_eq_true rfl) dX9_steps_23) hP hD hS hA [0, 1] [] rfl rfl (by decide) (by decide) (fun r_59 w_60 H locs hw_61 hP hD hS => ?_)
    obtain ⟨hf_62, hf_63, rfl⟩ := hw_61
    have hP : va_P D vwCl [(y, .inr (9, [.int m_thrown, .int m_status, .ref y_lane, .ref y_many, .ref y_item, .ref y_city, .ref y_fresh, .int m_isThere, .ref y_tape, .int m_taped, .int m_latest, .int m_length, .int m_cursor, .int m_token, .int m_start, .int m_till, .int m_fault, .int m_faultAt, .int m_seen2_54, .int m_mirrors2_55, .ref y_cost, .ref y_away, .ref y_fee, .ref y_goesTo, .ref y_priceWas, .ref y_isKept, .ref y_kept, .ref y_trace, .int m_traced])), (y_city, .inl (cI, 192, .inl cy))] H := hP
    have hD : va_D A [(y, .inr (9, [.int m_thrown, .int m_status, .ref y_lane, .ref y_many, .ref y_item, .ref y_city, .ref y_fresh, .int m_isThere, .ref y_tape, .int m_taped, .int m_latest, .int m_length, .int m_cursor, .int m_token, .int m_start, .int m_till, .int m_fault, .int m_faultAt, .int m_seen2_54, .int m_mirrors2_55, .ref y_cost, .ref y_away, .ref y_fee, .ref y_goesTo, .ref y_priceWas, .ref y_isKept, .ref y_kept, .ref y_trace, .int m_traced])), (y_city, .inl (cI, 192, .inl cy))] := hD
    refine lv_istore (lv' := [(5, .int r_59), (4, .int 0), (3, .int r_1), (0, .ref y), (1, .int a), (2, .int co)]) S.1 S.2.1 dX9_steps_26 hl (by decide) rfl (fun ls hl => ?_)
    refine lv_aload_n S.1 S.2.1 dX9_steps_28 rfl (lv_at hl 3 rfl) ?_
    refine lv_iload_n S.1 S.2.1 dX9_steps_29 rfl (lv_at hl 4 rfl) ?_
    refine b_ai (wr := []) (b_runV (q0 := 0) (ci := 9) (As := [.int a]) (s_X9_paysNow_x l D cI cZ cC cS sq H.size y y_city a m_thrown m_status y_lane y_many y_item y_fresh m_isThere y_tape m_taped m_latest m_length m_cursor m_token m_start m_till m_fault m_faultAt m_seen2_54 m_mirrors2_55 y_cost y_away y_fee y_goesTo y_priceWas y_isKept y_kept y_trace m_traced cy _ (by first | with_reducible assumption | assumption | omega | decide | (rw [show Int32.toInt 0 = 0 from rfl]; omega)) (by first | with_reducible assumption | (and_intros <;> first | with_reducible assumption | (intros; refine Int.le_antisymm ?_ ?_ <;> omega) | omega) | assumption | decide | (rw [show Int32.toInt 0 = 0 from rfl]; omega)) (by first | with_reducible assumption | (and_intros <;> first | with_reducible assumption | (intros; refine Int.le_antisymm ?_ ?_ <;> omega) | omega) | assumption | decide | (rw [show Int32.toInt 0 = 0 from rfl]; omega)) (by first | with_reducible assumption | assumption | omega | decide | (rw [show Int32.toInt 0 = 0 from rfl]; omega)) (by first | with_reducible assumption | assumption | omega | decide | (rw [show Int32.toInt 0 = 0 from rfl]; omega)) (by first | assumption | (have z_ := (by assumption : _ = lkS gg _ _); rw [z_]; exact lk_in hgb (by first | (refine Int.le_antisymm ?_ ?_ <;> omega) | omega))) (by first | with_reducible assumption | assumption | omega | decide | (rw [show Int32.toInt 0 = 0 from rfl]; omega)) (by first | with_reducible assumption | (and_intros <;> first | with_reducible assumption | (intros; refine Int.le_antisymm ?_ ?_ <;> omega) | omega) | assumption | decide | (rw [show Int32.toInt 0 = 0 from rfl]; omega)) (by first | with_reducible assumption | (and_intros <;> first | with_reducible assumption | (intros; refine Int.le_antisymm ?_ ?_ <;> omega) | omega) | assumption | decide | (rw [show Int32.toInt 0 = 0 from rfl]; omega)) (by first | with_reducible assumption | assumption | omega | decide | (rw [show Int32.toInt 0 = 0 from rfl]; omega))) S gX9_steps_X9_paysNow rfl hdV_X9_paysNow ⟨Nat.le_of_ble_eq_true rfl, Nat.le_of_ble_eq_true rfl⟩ ⟨Nat.le_of_ble_eq_true rfl, Nat.le_of_ble_eq_true rfl⟩ hK hT hS hA hP hD rfl rfl [0, 1] rfl (by decide) rfl hl.1 rfl (Nat.le_of_ble_eq_true rfl) dX9_steps_30) hP hD hS hA [0, 1] [] rfl rfl (by decide) (by decide) (fun r_64 w_65 H locs hw_66 hP hD hS => ?_)
    obtain ⟨hf_67, hf_68, rfl⟩ := hw_66
    have hP : va_P D vwCl [(y, .inr (9, [.int m_thrown, .int m_status, .ref y_lane, .ref y_many, .ref y_item, .ref y_city, .ref y_fresh, .int m_isThere, .ref y_tape, .int m_taped, .int m_latest, .int m_length, .int m_cursor, .int m_token, .int m_start, .int m_till, .int m_fault, .int m_faultAt, .int m_seen2_54, .int m_mirrors2_55, .ref y_cost, .ref y_away, .ref y_fee, .ref y_goesTo, .ref y_priceWas, .ref y_isKept, .ref y_kept, .ref y_trace, .int m_traced])), (y_city, .inl (cI, 192, .inl cy))] H := hP
    have hD : va_D A [(y, .inr (9, [.int m_thrown, .int m_status, .ref y_lane, .ref y_many, .ref y_item, .ref y_city, .ref y_fresh, .int m_isThere, .ref y_tape, .int m_taped, .int m_latest, .int m_length, .int m_cursor, .int m_token, .int m_start, .int m_till, .int m_fault, .int m_faultAt, .int m_seen2_54, .int m_mirrors2_55, .ref y_cost, .ref y_away, .ref y_fee, .ref y_goesTo, .ref y_priceWas, .ref y_isKept, .ref y_kept, .ref y_trace, .int m_traced])), (y_city, .inl (cI, 192, .inl cy))] := hD
    refine lv_istore (lv' := [(4, .int r_64), (5, .int r_59), (3, .int r_1), (0, .ref y), (1, .int a), (2, .int co)]) S.1 S.2.1 dX9_steps_33 hl (by decide) rfl (fun ls hl => ?_)
    refine lv_iload S.1 S.2.1 dX9_steps_35 (lv_at hl 1 rfl) ?_
    refine lv_if_lt (tgt := 80) S.1 S.2.1 dX9_steps_37 (by decide) (fun c_69 => ?_) (fun c_69 => ?_)
    · rw [lt2 (a := r_59) (b := 0) (A := r_59.toInt) (B := 0) rfl rfl] at c_69
      have py_ : (r_64).toInt = coG gg a.toInt co.toInt ∧ CYd (gaG gg a.toInt co.toInt) cy := by first | exact payY_N hcd (by first | (refine Int.le_antisymm ?_ ?_ <;> omega) | omega) rfl | exact payY_A hcd hr_ (by assumption) (by assumption) (by first | (refine Int.le_antisymm ?_ ?_ <;> omega) | omega) (by first | (refine Int.le_antisymm ?_ ?_ <;> omega) | omega) (by assumption) | exact payY_B (o := (r_59).toInt) hcd hr_ (by assumption) (by assumption) (by first | (refine Int.le_antisymm ?_ ?_ <;> omega) | omega) (by first | (refine Int.le_antisymm ?_ ?_ <;> omega) | omega) (by assumption) (by first | (refine Int.le_antisymm ?_ ?_ <;> omega) | omega) (by first | (refine Int.le_antisymm ?_ ?_ <;> omega) | omega) (by assumption) (by assumption) (by assumption) (by assumption) (by assumption) (by assumption) (by first | (refine Int.le_antisymm ?_ ?_ <;> omega) | omega) (by first | (refine Int.le_antisymm ?_ ?_ <;> omega) | omega)
      have oy_ : oE stI cy cy := by assumption
      refine lv_aload_n S.1 S.2.1 dX9_steps_80 rfl (lv_at hl 3 rfl) ?_
      refine lv_iload_n S.1 S.2.1 dX9_steps_81 rfl (lv_at hl 2 rfl) ?_
      refine lv_iload_n S.1 S.2.1 dX9_steps_82 rfl (lv_at hl 5 rfl) ?_
      refine lv_bipush (v := (8)) S.1 S.2.1 dX9_steps_83 (by decide) ?_
      refine lv_irem S.1 S.2.1 dX9_steps_85 (by decide) ?_
      refine lv_topi (fun x_70 ex_70 => ?_)
      have tx_70 : x_70.toInt = co.toInt % 8 := remI (A := co.toInt) (B := 8) ex_70 rfl rfl (by  omega) (by decide)
      refine b_ai (wr := []) (b_runV (q0 := 0) (ci := 9) (As := [.int r_1, .int x_70]) (s_X9_nextTo l D cI cZ cC cS sq H.size y y_city r_1 x_70 m_thrown m_status y_lane y_many y_item y_fresh m_isThere y_tape m_taped m_latest m_length m_cursor m_token m_start m_till m_fault m_faultAt m_seen2_54 m_mirrors2_55 y_cost y_away y_fee y_goesTo y_priceWas y_isKept y_kept y_trace m_traced cy (by first | with_reducible assumption | assumption | omega | decide | (rw [show Int32.toInt 0 = 0 from rfl]; omega)) (by first | with_reducible assumption | (and_intros <;> first | with_reducible assumption | (intros; refine Int.le_antisymm ?_ ?_ <;> omega) | omega) | assumption | decide | (rw [show Int32.toInt 0 = 0 from rfl]; omega)) (by first | with_reducible assumption | (and_intros <;> first | with_reducible assumption | (intros; refine Int.le_antisymm ?_ ?_ <;> omega) | omega) | assumption | decide | (rw [show Int32.toInt 0 = 0 from rfl]; omega))) S gX9_steps_X9_nextTo rfl hdV_X9_nextTo ⟨Nat.le_of_ble_eq_true rfl, Nat.le_of_ble_eq_true rfl⟩ ⟨Nat.le_of_ble_eq_true rfl, Nat.le_of_ble_eq_true rfl⟩ hK hT hS hA hP hD rfl rfl [0, 1] rfl (by decide) rfl hl.1 rfl (Nat.le_of_ble_eq_true rfl) dX9_steps_86) hP hD hS hA [0, 1] [] rfl rfl (by decide) (by decide) (fun r_71 w_72 H locs hw_73 hP hD hS => ?_)
      rcases hw_73 with ⟨hf_74, hf_75, rfl⟩ | ⟨hf_76, rfl, rfl⟩
      · have hP : va_P D vwCl [(y, .inr (9, [.int m_thrown, .int m_status, .ref y_lane, .ref y_many, .ref y_item, .ref y_city, .ref y_fresh, .int m_isThere, .ref y_tape, .int m_taped, .int m_latest, .int m_length, .int m_cursor, .int m_token, .int m_start, .int m_till, .int m_fault, .int m_faultAt, .int m_seen2_54, .int m_mirrors2_55, .ref y_cost, .ref y_away, .ref y_fee, .ref y_goesTo, .ref y_priceWas, .ref y_isKept, .ref y_kept, .ref y_trace, .int m_traced])), (y_city, .inl (cI, 192, .inl cy))] H := hP
        have hD : va_D A [(y, .inr (9, [.int m_thrown, .int m_status, .ref y_lane, .ref y_many, .ref y_item, .ref y_city, .ref y_fresh, .int m_isThere, .ref y_tape, .int m_taped, .int m_latest, .int m_length, .int m_cursor, .int m_token, .int m_start, .int m_till, .int m_fault, .int m_faultAt, .int m_seen2_54, .int m_mirrors2_55, .ref y_cost, .ref y_away, .ref y_fee, .ref y_goesTo, .ref y_priceWas, .ref y_isKept, .ref y_kept, .ref y_trace, .int m_traced])), (y_city, .inl (cI, 192, .inl cy))] := hD
        refine lv_istore (lv' := [(5, .int r_71), (4, .int r_64), (3, .int r_1), (0, .ref y), (1, .int a), (2, .int co)]) S.1 S.2.1 dX9_steps_89 hl (by decide) rfl (fun ls hl => ?_)
        refine lv_iload S.1 S.2.1 dX9_steps_91 (lv_at hl 0 rfl) ?_
        refine lv_if_lt (tgt := 123) S.1 S.2.1 dX9_steps_93 (by decide) (fun c_77 => ?_) (fun c_77 => ?_)
        · rw [lt2 (a := r_71) (b := 0) (A := r_71.toInt) (B := 0) rfl rfl] at c_77
          have ga3 := gaG_o (g := gg) (p := a.toInt) (co := co.toInt) (j := 3) hgo (by first | (refine Int.le_antisymm ?_ ?_ <;> omega) | omega) (by first | (refine Int.le_antisymm ?_ ?_ <;> omega) | omega) (by decide)
          have gn3 := gnG_3 (g := (gaG gg a.toInt co.toInt)) (p := a.toInt) (n := (nxT gg (gg (96 + 4 * a.toInt.toNat)) (co.toInt % 8))) (by first | (refine Int.le_antisymm ?_ ?_ <;> omega) | omega)
          have pl_ : CYd (gnG (gaG gg a.toInt co.toInt) a.toInt (nxT gg (gg (96 + 4 * a.toInt.toNat)) (co.toInt % 8))) cy := by first | exact CYd_n0 py_.2 (nxY_n hgy hgb (by rewrite [← hr_]; first | assumption | (have z_ := (by assumption : (_ : Int32).toInt = co.toInt % 8); rewrite [← z_]; assumption) | (have z_ := (by assumption : (_ : Int32).toInt = co.toInt % 8); rewrite [← z_, ← oy_ 0 (by first | (refine Int.le_antisymm ?_ ?_ <;> omega) | omega) (by unfold stI; omega), ← oy_ 1 (by first | (refine Int.le_antisymm ?_ ?_ <;> omega) | omega) (by unfold stI; omega)]; assumption) | omega) (by first | exact Or.inl (by first | (refine Int.le_antisymm ?_ ?_ <;> omega) | omega) | exact Or.inr (by first | (refine Int.le_antisymm ?_ ?_ <;> omega) | omega))) | exact CYd_n py_.2 (by first | (refine Int.le_antisymm ?_ ?_ <;> omega) | omega) (by first | (refine Int.le_antisymm ?_ ?_ <;> omega) | omega) (by assumption) (by first | (refine Int.le_antisymm ?_ ?_ <;> omega) | omega) (nxY_y hgy hgb (by rewrite [← hr_]; first | assumption | (have z_ := (by assumption : (_ : Int32).toInt = co.toInt % 8); rewrite [← z_]; assumption) | (have z_ := (by assumption : (_ : Int32).toInt = co.toInt % 8); rewrite [← z_, ← oy_ 0 (by first | (refine Int.le_antisymm ?_ ?_ <;> omega) | omega) (by unfold stI; omega), ← oy_ 1 (by first | (refine Int.le_antisymm ?_ ?_ <;> omega) | omega) (by unfold stI; omega)]; assumption) | omega) (by first | (refine Int.le_antisymm ?_ ?_ <;> omega) | omega) (by first | (refine Int.le_antisymm ?_ ?_ <;> omega) | omega)) (by have q := nxY_y (r := (r_71).toInt) (k := (gg (96 + 4 * a.toInt.toNat))) (y := co.toInt % 8) hgy hgb (by rewrite [← hr_]; first | assumption | (have z_ := (by assumption : (_ : Int32).toInt = co.toInt % 8); rewrite [← z_]; assumption) | (have z_ := (by assumption : (_ : Int32).toInt = co.toInt % 8); rewrite [← z_, ← oy_ 0 (by first | (refine Int.le_antisymm ?_ ?_ <;> omega) | omega) (by unfold stI; omega), ← oy_ 1 (by first | (refine Int.le_antisymm ?_ ?_ <;> omega) | omega) (by unfold stI; omega)]; assumption) | omega) (by first | (refine Int.le_antisymm ?_ ?_ <;> omega) | omega) (by first | (refine Int.le_antisymm ?_ ?_ <;> omega) | omega); omega)
          refine lv_aload_n S.1 S.2.1 dX9_steps_123 rfl (lv_at hl 3 rfl) ?_
          refine b_get (v := .ref y_city) S iX9 hK hP 0 rfl rfl 5 (by decide) (by decide +kernel) rfl dX9_steps_124 ?_
          refine lv_bipush (v := (96)) S.1 S.2.1 dX9_steps_127 (by decide) ?_
          refine lv_iconst (v := (4)) S.1 S.2.1 dX9_steps_129 (by decide) ?_
          refine lv_iload_n S.1 S.2.1 dX9_steps_130 rfl (lv_at hl 4 rfl) ?_
          refine lv_imul S.1 S.2.1 dX9_steps_131 ?_
          refine lv_topi (fun x_78 ex_78 => ?_)
          have tx_78 : x_78.toInt = 4 * a.toInt := mulI (A := 4) (B := a.toInt) ex_78 rfl rfl (by  omega) (by  omega)
          refine lv_iadd S.1 S.2.1 dX9_steps_132 ?_
          refine lv_topi (fun x_79 ex_79 => ?_)
          have tx_79 : x_79.toInt = 96 + (x_78.toInt) := addI (A := 96) (B := x_78.toInt) ex_79 rfl rfl (by  omega) (by  omega)
          refine lv_iconst (v := (3)) S.1 S.2.1 dX9_steps_133 (by decide) ?_
          refine lv_iadd S.1 S.2.1 dX9_steps_134 ?_
          refine lv_topi (fun x_80 ex_80 => ?_)
          have tx_80 : x_80.toInt = x_79.toInt + (3) := addI (A := x_79.toInt) (B := 3) ex_80 rfl rfl (by  omega) (by  omega)
          refine lv_dup2_11 S.1 S.2.1 dX9_steps_135 rfl rfl ?_
          have hin_81 : vp_in x_80 192 := (in_of (n := 192) (by  omega) (by  omega))
          refine va_iald S.1 S.2.1 hK.1 hP 1 0 rfl rfl hin_81 dX9_steps_136 ?_
          refine lv_topi (fun x_82 ex_82 => ?_)
          refine lv_iconst (v := (1)) S.1 S.2.1 dX9_steps_137 (by decide) ?_
          refine lv_iadd S.1 S.2.1 dX9_steps_138 ?_
          refine lv_topi (fun x_83 ex_83 => ?_)
          refine va_iast S.1 S.2.1 hK.1 hP hD hS 1 0 rfl rfl (in_of (n := 192) (by  omega) (by  omega)) dX9_steps_139 (fun H locs hP hD hS => ?_)
          obtain ⟨f_84, hf_84, rf_84⟩ : ∃ g, (upd cy x_80.toNatClampNeg (x_83)) = g ∧ prd cyK 192 g := ⟨_, rfl, cys_O (i := x_80) (v := x_83) (by assumption) (by first | (refine Int.le_antisymm ?_ ?_ <;> omega) | omega) (by first | (refine Int.le_antisymm ?_ ?_ <;> omega) | omega)⟩
          have of_84 : oE stI cy f_84 := oE_upd (by assumption) hf_84 (by first | (refine Int.le_antisymm ?_ ?_ <;> omega) | omega) (fun j hj hs => by unfold stI at hs; omega)
          have hP : va_P D vwCl [(y, .inr (9, [.int m_thrown, .int m_status, .ref y_lane, .ref y_many, .ref y_item, .ref y_city, .ref y_fresh, .int m_isThere, .ref y_tape, .int m_taped, .int m_latest, .int m_length, .int m_cursor, .int m_token, .int m_start, .int m_till, .int m_fault, .int m_faultAt, .int m_seen2_54, .int m_mirrors2_55, .ref y_cost, .ref y_away, .ref y_fee, .ref y_goesTo, .ref y_priceWas, .ref y_isKept, .ref y_kept, .ref y_trace, .int m_traced])), (y_city, .inl (cI, 192, .inl (upd cy x_80.toNatClampNeg (x_83))))] H := hP
          have hD : va_D A [(y, .inr (9, [.int m_thrown, .int m_status, .ref y_lane, .ref y_many, .ref y_item, .ref y_city, .ref y_fresh, .int m_isThere, .ref y_tape, .int m_taped, .int m_latest, .int m_length, .int m_cursor, .int m_token, .int m_start, .int m_till, .int m_fault, .int m_faultAt, .int m_seen2_54, .int m_mirrors2_55, .ref y_cost, .ref y_away, .ref y_fee, .ref y_goesTo, .ref y_priceWas, .ref y_isKept, .ref y_kept, .ref y_trace, .int m_traced])), (y_city, .inl (cI, 192, .inl (upd cy x_80.toNatClampNeg (x_83))))] := hD
          rw [hf_84] at hP hD
          refine lv_iload S.1 S.2.1 dX9_steps_140 (lv_at hl 1 rfl) ?_
          exact b_iret S.1 S.2.1 X.2.1 X.2.2.1 hP hD hS ⟨m_seen2_54, m_mirrors2_55, f_84, (by first | with_reducible assumption | assumption | omega | decide | (rw [show Int32.toInt 0 = 0 from rfl]; omega)), (by first | with_reducible assumption | (and_intros <;> first | with_reducible assumption | (intros; refine Int.le_antisymm ?_ ?_ <;> omega) | omega) | assumption | decide | (rw [show Int32.toInt 0 = 0 from rfl]; omega)), (by first | with_reducible assumption | assumption | omega | decide | (rw [show Int32.toInt 0 = 0 from rfl]; omega)), py_.1, (CYd_s pl_ (by first | (refine Int.le_antisymm ?_ ?_ <;> omega) | omega) (by first | (refine Int.le_antisymm ?_ ?_ <;> omega) | omega) (by assumption) (by assumption) (by assumption) (by first | (refine Int.le_antisymm ?_ ?_ <;> omega) | omega)), rfl⟩ dX9_steps_142
        · rw [lt2 (a := r_71) (b := 0) (A := r_71.toInt) (B := 0) rfl rfl] at c_77
          refine lv_aload_n S.1 S.2.1 dX9_steps_96 rfl (lv_at hl 3 rfl) ?_
          refine b_get (v := .ref y_city) S iX9 hK hP 0 rfl rfl 5 (by decide) (by decide +kernel) rfl dX9_steps_97 ?_
          refine lv_iconst (v := (4)) S.1 S.2.1 dX9_steps_100 (by decide) ?_
          refine lv_iload S.1 S.2.1 dX9_steps_101 (lv_at hl 0 rfl) ?_
          refine lv_iadd S.1 S.2.1 dX9_steps_103 ?_
          refine lv_topi (fun x_85 ex_85 => ?_)
          have tx_85 : x_85.toInt = 4 + (r_71.toInt) := addI (A := 4) (B := r_71.toInt) ex_85 rfl rfl (by  omega) (by  omega)
          have hin_86 : vp_in x_85 192 := (in_of (n := 192) (by  omega) (by  omega))
          refine va_iald S.1 S.2.1 hK.1 hP 1 0 rfl rfl hin_86 dX9_steps_104 ?_
          refine lv_topi (fun x_87 ex_87 => ?_)
          have tx_87 := cyg_A (x := x_87) (show prd cyK 192 cy by assumption) (by first | (refine Int.le_antisymm ?_ ?_ <;> omega) | omega) ex_87
          have cn_ : x_87.toInt = (cy (4 + (r_71).toInt.toNat)).toInt := by rw [ex_87]; exact (congrArg (fun z => (cy z).toInt) (by show (x_85).toInt.toNat = 4 + (r_71).toInt.toNat; omega)).trans (congrArg Int32.toInt (oy_ (4 + (r_71).toInt.toNat) (by first | (refine Int.le_antisymm ?_ ?_ <;> omega) | omega) (by unfold stI; omega)))
          refine lv_bipush (v := (-3)) S.1 S.2.1 dX9_steps_105 (by decide) ?_
          refine lv_icmp_ne (tgt := 123) S.1 S.2.1 dX9_steps_107 (by decide) (fun c_88 => ?_) (fun c_88 => ?_)
          · rw [eq2 (a := x_87) (b := (-3)) (A := x_87.toInt) (B := -3) rfl rfl] at c_88
            have ga3 := gaG_o (g := gg) (p := a.toInt) (co := co.toInt) (j := 3) hgo (by first | (refine Int.le_antisymm ?_ ?_ <;> omega) | omega) (by first | (refine Int.le_antisymm ?_ ?_ <;> omega) | omega) (by decide)
            have gn3 := gnG_3 (g := (gaG gg a.toInt co.toInt)) (p := a.toInt) (n := (nxT gg (gg (96 + 4 * a.toInt.toNat)) (co.toInt % 8))) (by first | (refine Int.le_antisymm ?_ ?_ <;> omega) | omega)
            have pl_ : CYd (gnG (gaG gg a.toInt co.toInt) a.toInt (nxT gg (gg (96 + 4 * a.toInt.toNat)) (co.toInt % 8))) cy := by first | exact CYd_n0 py_.2 (nxY_n hgy hgb (by rewrite [← hr_]; first | assumption | (have z_ := (by assumption : (_ : Int32).toInt = co.toInt % 8); rewrite [← z_]; assumption) | (have z_ := (by assumption : (_ : Int32).toInt = co.toInt % 8); rewrite [← z_, ← oy_ 0 (by first | (refine Int.le_antisymm ?_ ?_ <;> omega) | omega) (by unfold stI; omega), ← oy_ 1 (by first | (refine Int.le_antisymm ?_ ?_ <;> omega) | omega) (by unfold stI; omega)]; assumption) | omega) (by first | exact Or.inl (by first | (refine Int.le_antisymm ?_ ?_ <;> omega) | omega) | exact Or.inr (by first | (refine Int.le_antisymm ?_ ?_ <;> omega) | omega))) | exact CYd_n py_.2 (by first | (refine Int.le_antisymm ?_ ?_ <;> omega) | omega) (by first | (refine Int.le_antisymm ?_ ?_ <;> omega) | omega) (by assumption) (by first | (refine Int.le_antisymm ?_ ?_ <;> omega) | omega) (nxY_y hgy hgb (by rewrite [← hr_]; first | assumption | (have z_ := (by assumption : (_ : Int32).toInt = co.toInt % 8); rewrite [← z_]; assumption) | (have z_ := (by assumption : (_ : Int32).toInt = co.toInt % 8); rewrite [← z_, ← oy_ 0 (by first | (refine Int.le_antisymm ?_ ?_ <;> omega) | omega) (by unfold stI; omega), ← oy_ 1 (by first | (refine Int.le_antisymm ?_ ?_ <;> omega) | omega) (by unfold stI; omega)]; assumption) | omega) (by first | (refine Int.le_antisymm ?_ ?_ <;> omega) | omega) (by first | (refine Int.le_antisymm ?_ ?_ <;> omega) | omega)) (by have q := nxY_y (r := (r_71).toInt) (k := (gg (96 + 4 * a.toInt.toNat))) (y := co.toInt % 8) hgy hgb (by rewrite [← hr_]; first | assumption | (have z_ := (by assumption : (_ : Int32).toInt = co.toInt % 8); rewrite [← z_]; assumption) | (have z_ := (by assumption : (_ : Int32).toInt = co.toInt % 8); rewrite [← z_, ← oy_ 0 (by first | (refine Int.le_antisymm ?_ ?_ <;> omega) | omega) (by unfold stI; omega), ← oy_ 1 (by first | (refine Int.le_antisymm ?_ ?_ <;> omega) | omega) (by unfold stI; omega)]; assumption) | omega) (by first | (refine Int.le_antisymm ?_ ?_ <;> omega) | omega) (by first | (refine Int.le_antisymm ?_ ?_ <;> omega) | omega); omega)
            refine lv_aload_n S.1 S.2.1 dX9_steps_123 rfl (lv_at hl 3 rfl) ?_
            refine b_get (v := .ref y_city) S iX9 hK hP 0 rfl rfl 5 (by decide) (by decide +kernel) rfl dX9_steps_124 ?_
            refine lv_bipush (v := (96)) S.1 S.2.1 dX9_steps_127 (by decide) ?_
            refine lv_iconst (v := (4)) S.1 S.2.1 dX9_steps_129 (by decide) ?_
            refine lv_iload_n S.1 S.2.1 dX9_steps_130 rfl (lv_at hl 4 rfl) ?_
            refine lv_imul S.1 S.2.1 dX9_steps_131 ?_
            refine lv_topi (fun x_89 ex_89 => ?_)
            have tx_89 : x_89.toInt = 4 * a.toInt := mulI (A := 4) (B := a.toInt) ex_89 rfl rfl (by  omega) (by  omega)
            refine lv_iadd S.1 S.2.1 dX9_steps_132 ?_
            refine lv_topi (fun x_90 ex_90 => ?_)
            have tx_90 : x_90.toInt = 96 + (x_89.toInt) := addI (A := 96) (B := x_89.toInt) ex_90 rfl rfl (by  omega) (by  omega)
            refine lv_iconst (v := (3)) S.1 S.2.1 dX9_steps_133 (by decide) ?_
            refine lv_iadd S.1 S.2.1 dX9_steps_134 ?_
            refine lv_topi (fun x_91 ex_91 => ?_)
            have tx_91 : x_91.toInt = x_90.toInt + (3) := addI (A := x_90.toInt) (B := 3) ex_91 rfl rfl (by  omega) (by  omega)
            refine lv_dup2_11 S.1 S.2.1 dX9_steps_135 rfl rfl ?_
            have hin_92 : vp_in x_91 192 := (in_of (n := 192) (by  omega) (by  omega))
            refine va_iald S.1 S.2.1 hK.1 hP 1 0 rfl rfl hin_92 dX9_steps_136 ?_
            refine lv_topi (fun x_93 ex_93 => ?_)
            refine lv_iconst (v := (1)) S.1 S.2.1 dX9_steps_137 (by decide) ?_
            refine lv_iadd S.1 S.2.1 dX9_steps_138 ?_
            refine lv_topi (fun x_94 ex_94 => ?_)
            refine va_iast S.1 S.2.1 hK.1 hP hD hS 1 0 rfl rfl (in_of (n := 192) (by  omega) (by  omega)) dX9_steps_139 (fun H locs hP hD hS => ?_)
            obtain ⟨f_95, hf_95, rf_95⟩ : ∃ g, (upd cy x_91.toNatClampNeg (x_94)) = g ∧ prd cyK 192 g := ⟨_, rfl, cys_O (i := x_91) (v := x_94) (by assumption) (by first | (refine Int.le_antisymm ?_ ?_ <;> omega) | omega) (by first | (refine Int.le_antisymm ?_ ?_ <;> omega) | omega)⟩
            have of_95 : oE stI cy f_95 := oE_upd (by assumption) hf_95 (by first | (refine Int.le_antisymm ?_ ?_ <;> omega) | omega) (fun j hj hs => by unfold stI at hs; omega)
            have hP : va_P D vwCl [(y, .inr (9, [.int m_thrown, .int m_status, .ref y_lane, .ref y_many, .ref y_item, .ref y_city, .ref y_fresh, .int m_isThere, .ref y_tape, .int m_taped, .int m_latest, .int m_length, .int m_cursor, .int m_token, .int m_start, .int m_till, .int m_fault, .int m_faultAt, .int m_seen2_54, .int m_mirrors2_55, .ref y_cost, .ref y_away, .ref y_fee, .ref y_goesTo, .ref y_priceWas, .ref y_isKept, .ref y_kept, .ref y_trace, .int m_traced])), (y_city, .inl (cI, 192, .inl (upd cy x_91.toNatClampNeg (x_94))))] H := hP
            have hD : va_D A [(y, .inr (9, [.int m_thrown, .int m_status, .ref y_lane, .ref y_many, .ref y_item, .ref y_city, .ref y_fresh, .int m_isThere, .ref y_tape, .int m_taped, .int m_latest, .int m_length, .int m_cursor, .int m_token, .int m_start, .int m_till, .int m_fault, .int m_faultAt, .int m_seen2_54, .int m_mirrors2_55, .ref y_cost, .ref y_away, .ref y_fee, .ref y_goesTo, .ref y_priceWas, .ref y_isKept, .ref y_kept, .ref y_trace, .int m_traced])), (y_city, .inl (cI, 192, .inl (upd cy x_91.toNatClampNeg (x_94))))] := hD
            rw [hf_95] at hP hD
            refine lv_iload S.1 S.2.1 dX9_steps_140 (lv_at hl 1 rfl) ?_
            exact b_iret S.1 S.2.1 X.2.1 X.2.2.1 hP hD hS ⟨m_seen2_54, m_mirrors2_55, f_95, (by first | with_reducible assumption | assumption | omega | decide | (rw [show Int32.toInt 0 = 0 from rfl]; omega)), (by first | with_reducible assumption | (and_intros <;> first | with_reducible assumption | (intros; refine Int.le_antisymm ?_ ?_ <;> omega) | omega) | assumption | decide | (rw [show Int32.toInt 0 = 0 from rfl]; omega)), (by first | with_reducible assumption | assumption | omega | decide | (rw [show Int32.toInt 0 = 0 from rfl]; omega)), py_.1, (CYd_s pl_ (by first | (refine Int.le_antisymm ?_ ?_ <;> omega) | omega) (by first | (refine Int.le_antisymm ?_ ?_ <;> omega) | omega) (by assumption) (by assumption) (by assumption) (by first | (refine Int.le_antisymm ?_ ?_ <;> omega) | omega)), rfl⟩ dX9_steps_142
          · rw [eq2 (a := x_87) (b := (-3)) (A := x_87.toInt) (B := -3) rfl rfl] at c_88
            refine lv_aload_n S.1 S.2.1 dX9_steps_110 rfl (lv_at hl 3 rfl) ?_
            refine b_get (v := .ref y_city) S iX9 hK hP 0 rfl rfl 5 (by decide) (by decide +kernel) rfl dX9_steps_111 ?_
            refine lv_bipush (v := (96)) S.1 S.2.1 dX9_steps_114 (by decide) ?_
            refine lv_iconst (v := (4)) S.1 S.2.1 dX9_steps_116 (by decide) ?_
            refine lv_iload_n S.1 S.2.1 dX9_steps_117 rfl (lv_at hl 4 rfl) ?_
            refine lv_imul S.1 S.2.1 dX9_steps_118 ?_
            refine lv_topi (fun x_96 ex_96 => ?_)
            have tx_96 : x_96.toInt = 4 * a.toInt := mulI (A := 4) (B := a.toInt) ex_96 rfl rfl (by  omega) (by  omega)
            refine lv_iadd S.1 S.2.1 dX9_steps_119 ?_
            refine lv_topi (fun x_97 ex_97 => ?_)
            have tx_97 : x_97.toInt = 96 + (x_96.toInt) := addI (A := 96) (B := x_96.toInt) ex_97 rfl rfl (by  omega) (by  omega)
            refine lv_iload S.1 S.2.1 dX9_steps_120 (lv_at hl 0 rfl) ?_
            refine va_iast S.1 S.2.1 hK.1 hP hD hS 1 0 rfl rfl (in_of (n := 192) (by  omega) (by  omega)) dX9_steps_122 (fun H locs hP hD hS => ?_)
            obtain ⟨f_98, hf_98, rf_98⟩ : ∃ g, (upd cy x_97.toNatClampNeg (r_71)) = g ∧ prd cyK 192 g := ⟨_, rfl, cys_O (i := x_97) (v := r_71) (by assumption) (by first | (refine Int.le_antisymm ?_ ?_ <;> omega) | omega) (by first | (refine Int.le_antisymm ?_ ?_ <;> omega) | omega)⟩
            have of_98 : oE stI cy f_98 := oE_upd (by assumption) hf_98 (by first | (refine Int.le_antisymm ?_ ?_ <;> omega) | omega) (fun j hj hs => by unfold stI at hs; omega)
            have hP : va_P D vwCl [(y, .inr (9, [.int m_thrown, .int m_status, .ref y_lane, .ref y_many, .ref y_item, .ref y_city, .ref y_fresh, .int m_isThere, .ref y_tape, .int m_taped, .int m_latest, .int m_length, .int m_cursor, .int m_token, .int m_start, .int m_till, .int m_fault, .int m_faultAt, .int m_seen2_54, .int m_mirrors2_55, .ref y_cost, .ref y_away, .ref y_fee, .ref y_goesTo, .ref y_priceWas, .ref y_isKept, .ref y_kept, .ref y_trace, .int m_traced])), (y_city, .inl (cI, 192, .inl (upd cy x_97.toNatClampNeg (r_71))))] H := hP
            have hD : va_D A [(y, .inr (9, [.int m_thrown, .int m_status, .ref y_lane, .ref y_many, .ref y_item, .ref y_city, .ref y_fresh, .int m_isThere, .ref y_tape, .int m_taped, .int m_latest, .int m_length, .int m_cursor, .int m_token, .int m_start, .int m_till, .int m_fault, .int m_faultAt, .int m_seen2_54, .int m_mirrors2_55, .ref y_cost, .ref y_away, .ref y_fee, .ref y_goesTo, .ref y_priceWas, .ref y_isKept, .ref y_kept, .ref y_trace, .int m_traced])), (y_city, .inl (cI, 192, .inl (upd cy x_97.toNatClampNeg (r_71))))] := hD
            rw [hf_98] at hP hD
            have ga3 := gaG_o (g := gg) (p := a.toInt) (co := co.toInt) (j := 3) hgo (by first | (refine Int.le_antisymm ?_ ?_ <;> omega) | omega) (by first | (refine Int.le_antisymm ?_ ?_ <;> omega) | omega) (by decide)
            have gn3 := gnG_3 (g := (gaG gg a.toInt co.toInt)) (p := a.toInt) (n := (nxT gg (gg (96 + 4 * a.toInt.toNat)) (co.toInt % 8))) (by first | (refine Int.le_antisymm ?_ ?_ <;> omega) | omega)
            have pl_ : CYd (gnG (gaG gg a.toInt co.toInt) a.toInt (nxT gg (gg (96 + 4 * a.toInt.toNat)) (co.toInt % 8))) f_98 := by first | exact CYd_n0 py_.2 (nxY_n hgy hgb (by rewrite [← hr_]; first | assumption | (have z_ := (by assumption : (_ : Int32).toInt = co.toInt % 8); rewrite [← z_]; assumption) | (have z_ := (by assumption : (_ : Int32).toInt = co.toInt % 8); rewrite [← z_, ← oy_ 0 (by first | (refine Int.le_antisymm ?_ ?_ <;> omega) | omega) (by unfold stI; omega), ← oy_ 1 (by first | (refine Int.le_antisymm ?_ ?_ <;> omega) | omega) (by unfold stI; omega)]; assumption) | omega) (by first | exact Or.inl (by first | (refine Int.le_antisymm ?_ ?_ <;> omega) | omega) | exact Or.inr (by first | (refine Int.le_antisymm ?_ ?_ <;> omega) | omega))) | exact CYd_n py_.2 (by first | (refine Int.le_antisymm ?_ ?_ <;> omega) | omega) (by first | (refine Int.le_antisymm ?_ ?_ <;> omega) | omega) (by assumption) (by first | (refine Int.le_antisymm ?_ ?_ <;> omega) | omega) (nxY_y hgy hgb (by rewrite [← hr_]; first | assumption | (have z_ := (by assumption : (_ : Int32).toInt = co.toInt % 8); rewrite [← z_]; assumption) | (have z_ := (by assumption : (_ : Int32).toInt = co.toInt % 8); rewrite [← z_, ← oy_ 0 (by first | (refine Int.le_antisymm ?_ ?_ <;> omega) | omega) (by unfold stI; omega), ← oy_ 1 (by first | (refine Int.le_antisymm ?_ ?_ <;> omega) | omega) (by unfold stI; omega)]; assumption) | omega) (by first | (refine Int.le_antisymm ?_ ?_ <;> omega) | omega) (by first | (refine Int.le_antisymm ?_ ?_ <;> omega) | omega)) (by have q := nxY_y (r := (r_71).toInt) (k := (gg (96 + 4 * a.toInt.toNat))) (y := co.toInt % 8) hgy hgb (by rewrite [← hr_]; first | assumption | (have z_ := (by assumption : (_ : Int32).toInt = co.toInt % 8); rewrite [← z_]; assumption) | (have z_ := (by assumption : (_ : Int32).toInt = co.toInt % 8); rewrite [← z_, ← oy_ 0 (by first | (refine Int.le_antisymm ?_ ?_ <;> omega) | omega) (by unfold stI; omega), ← oy_ 1 (by first | (refine Int.le_antisymm ?_ ?_ <;> omega) | omega) (by unfold stI; omega)]; assumption) | omega) (by first | (refine Int.le_antisymm ?_ ?_ <;> omega) | omega) (by first | (refine Int.le_antisymm ?_ ?_ <;> omega) | omega); omega)
            refine lv_aload_n S.1 S.2.1 dX9_steps_123 rfl (lv_at hl 3 rfl) ?_
            refine b_get (v := .ref y_city) S iX9 hK hP 0 rfl rfl 5 (by decide) (by decide +kernel) rfl dX9_steps_124 ?_
            refine lv_bipush (v := (96)) S.1 S.2.1 dX9_steps_127 (by decide) ?_
            refine lv_iconst (v := (4)) S.1 S.2.1 dX9_steps_129 (by decide) ?_
            refine lv_iload_n S.1 S.2.1 dX9_steps_130 rfl (lv_at hl 4 rfl) ?_
            refine lv_imul S.1 S.2.1 dX9_steps_131 ?_
            refine lv_topi (fun x_99 ex_99 => ?_)
            have tx_99 : x_99.toInt = 4 * a.toInt := mulI (A := 4) (B := a.toInt) ex_99 rfl rfl (by  omega) (by  omega)
            refine lv_iadd S.1 S.2.1 dX9_steps_132 ?_
            refine lv_topi (fun x_100 ex_100 => ?_)
            have tx_100 : x_100.toInt = 96 + (x_99.toInt) := addI (A := 96) (B := x_99.toInt) ex_100 rfl rfl (by  omega) (by  omega)
            refine lv_iconst (v := (3)) S.1 S.2.1 dX9_steps_133 (by decide) ?_
            refine lv_iadd S.1 S.2.1 dX9_steps_134 ?_
            refine lv_topi (fun x_101 ex_101 => ?_)
            have tx_101 : x_101.toInt = x_100.toInt + (3) := addI (A := x_100.toInt) (B := 3) ex_101 rfl rfl (by  omega) (by  omega)
            refine lv_dup2_11 S.1 S.2.1 dX9_steps_135 rfl rfl ?_
            have hin_102 : vp_in x_101 192 := (in_of (n := 192) (by  omega) (by  omega))
            refine va_iald S.1 S.2.1 hK.1 hP 1 0 rfl rfl hin_102 dX9_steps_136 ?_
            refine lv_topi (fun x_103 ex_103 => ?_)
            refine lv_iconst (v := (1)) S.1 S.2.1 dX9_steps_137 (by decide) ?_
            refine lv_iadd S.1 S.2.1 dX9_steps_138 ?_
            refine lv_topi (fun x_104 ex_104 => ?_)
            refine va_iast S.1 S.2.1 hK.1 hP hD hS 1 0 rfl rfl (in_of (n := 192) (by  omega) (by  omega)) dX9_steps_139 (fun H locs hP hD hS => ?_)
            obtain ⟨f_105, hf_105, rf_105⟩ : ∃ g, (upd f_98 x_101.toNatClampNeg (x_104)) = g ∧ prd cyK 192 g := ⟨_, rfl, cys_O (i := x_101) (v := x_104) (by assumption) (by first | (refine Int.le_antisymm ?_ ?_ <;> omega) | omega) (by first | (refine Int.le_antisymm ?_ ?_ <;> omega) | omega)⟩
            have of_105 : oE stI cy f_105 := oE_upd (by assumption) hf_105 (by first | (refine Int.le_antisymm ?_ ?_ <;> omega) | omega) (fun j hj hs => by unfold stI at hs; omega)
            have hP : va_P D vwCl [(y, .inr (9, [.int m_thrown, .int m_status, .ref y_lane, .ref y_many, .ref y_item, .ref y_city, .ref y_fresh, .int m_isThere, .ref y_tape, .int m_taped, .int m_latest, .int m_length, .int m_cursor, .int m_token, .int m_start, .int m_till, .int m_fault, .int m_faultAt, .int m_seen2_54, .int m_mirrors2_55, .ref y_cost, .ref y_away, .ref y_fee, .ref y_goesTo, .ref y_priceWas, .ref y_isKept, .ref y_kept, .ref y_trace, .int m_traced])), (y_city, .inl (cI, 192, .inl (upd f_98 x_101.toNatClampNeg (x_104))))] H := hP
            have hD : va_D A [(y, .inr (9, [.int m_thrown, .int m_status, .ref y_lane, .ref y_many, .ref y_item, .ref y_city, .ref y_fresh, .int m_isThere, .ref y_tape, .int m_taped, .int m_latest, .int m_length, .int m_cursor, .int m_token, .int m_start, .int m_till, .int m_fault, .int m_faultAt, .int m_seen2_54, .int m_mirrors2_55, .ref y_cost, .ref y_away, .ref y_fee, .ref y_goesTo, .ref y_priceWas, .ref y_isKept, .ref y_kept, .ref y_trace, .int m_traced])), (y_city, .inl (cI, 192, .inl (upd f_98 x_101.toNatClampNeg (x_104))))] := hD
            rw [hf_105] at hP hD
            refine lv_iload S.1 S.2.1 dX9_steps_140 (lv_at hl 1 rfl) ?_
            exact b_iret S.1 S.2.1 X.2.1 X.2.2.1 hP hD hS ⟨m_seen2_54, m_mirrors2_55, f_105, (by first | with_reducible assumption | assumption | omega | decide | (rw [show Int32.toInt 0 = 0 from rfl]; omega)), (by first | with_reducible assumption | (and_intros <;> first | with_reducible assumption | (intros; refine Int.le_antisymm ?_ ?_ <;> omega) | omega) | assumption | decide | (rw [show Int32.toInt 0 = 0 from rfl]; omega)), (by first | with_reducible assumption | assumption | omega | decide | (rw [show Int32.toInt 0 = 0 from rfl]; omega)), py_.1, (CYd_s pl_ (by first | (refine Int.le_antisymm ?_ ?_ <;> omega) | omega) (by first | (refine Int.le_antisymm ?_ ?_ <;> omega) | omega) (by assumption) (by assumption) (by assumption) (by first | (refine Int.le_antisymm ?_ ?_ <;> omega) | omega)), rfl⟩ dX9_steps_142
      · have hP : va_P D vwCl [(y, .inr (9, [.int m_thrown, .int m_status, .ref y_lane, .ref y_many, .ref y_item, .ref y_city, .ref y_fresh, .int m_isThere, .ref y_tape, .int m_taped, .int m_latest, .int m_length, .int m_cursor, .int m_token, .int m_start, .int m_till, .int m_fault, .int m_faultAt, .int m_seen2_54, .int m_mirrors2_55, .ref y_cost, .ref y_away, .ref y_fee, .ref y_goesTo, .ref y_priceWas, .ref y_isKept, .ref y_kept, .ref y_trace, .int m_traced])), (y_city, .inl (cI, 192, .inl cy))] H := hP
        have hD : va_D A [(y, .inr (9, [.int m_thrown, .int m_status, .ref y_lane, .ref y_many, .ref y_item, .ref y_city, .ref y_fresh, .int m_isThere, .ref y_tape, .int m_taped, .int m_latest, .int m_length, .int m_cursor, .int m_token, .int m_start, .int m_till, .int m_fault, .int m_faultAt, .int m_seen2_54, .int m_mirrors2_55, .ref y_cost, .ref y_away, .ref y_fee, .ref y_goesTo, .ref y_priceWas, .ref y_isKept, .ref y_kept, .ref y_trace, .int m_traced])), (y_city, .inl (cI, 192, .inl cy))] := hD
        refine lv_istore (lv' := [(5, .int (-1)), (4, .int r_64), (3, .int r_1), (0, .ref y), (1, .int a), (2, .int co)]) S.1 S.2.1 dX9_steps_89 hl (by decide) rfl (fun ls hl => ?_)
        refine lv_iload S.1 S.2.1 dX9_steps_91 (lv_at hl 0 rfl) ?_
        refine lv_if_lt (tgt := 123) S.1 S.2.1 dX9_steps_93 (by decide) (fun c_106 => ?_) (fun c_106 => absurd c_106 (by decide))
        have ga3 := gaG_o (g := gg) (p := a.toInt) (co := co.toInt) (j := 3) hgo (by first | (refine Int.le_antisymm ?_ ?_ <;> omega) | omega) (by first | (refine Int.le_antisymm ?_ ?_ <;> omega) | omega) (by decide)
        have gn3 := gnG_3 (g := (gaG gg a.toInt co.toInt)) (p := a.toInt) (n := (nxT gg (gg (96 + 4 * a.toInt.toNat)) (co.toInt % 8))) (by first | (refine Int.le_antisymm ?_ ?_ <;> omega) | omega)
        have pl_ : CYd (gnG (gaG gg a.toInt co.toInt) a.toInt (nxT gg (gg (96 + 4 * a.toInt.toNat)) (co.toInt % 8))) cy := by first | exact CYd_n0 py_.2 (nxY_n hgy hgb (by rewrite [← hr_]; first | assumption | (have z_ := (by assumption : (_ : Int32).toInt = co.toInt % 8); rewrite [← z_]; assumption) | (have z_ := (by assumption : (_ : Int32).toInt = co.toInt % 8); rewrite [← z_, ← oy_ 0 (by first | (refine Int.le_antisymm ?_ ?_ <;> omega) | omega) (by unfold stI; omega), ← oy_ 1 (by first | (refine Int.le_antisymm ?_ ?_ <;> omega) | omega) (by unfold stI; omega)]; assumption) | omega) (by first | exact Or.inl (by first | (refine Int.le_antisymm ?_ ?_ <;> omega) | omega) | exact Or.inr (by first | (refine Int.le_antisymm ?_ ?_ <;> omega) | omega))) | exact CYd_n py_.2 (by first | (refine Int.le_antisymm ?_ ?_ <;> omega) | omega) (by first | (refine Int.le_antisymm ?_ ?_ <;> omega) | omega) (by assumption) (by first | (refine Int.le_antisymm ?_ ?_ <;> omega) | omega) (nxY_y hgy hgb (by rewrite [← hr_]; first | assumption | (have z_ := (by assumption : (_ : Int32).toInt = co.toInt % 8); rewrite [← z_]; assumption) | (have z_ := (by assumption : (_ : Int32).toInt = co.toInt % 8); rewrite [← z_, ← oy_ 0 (by first | (refine Int.le_antisymm ?_ ?_ <;> omega) | omega) (by unfold stI; omega), ← oy_ 1 (by first | (refine Int.le_antisymm ?_ ?_ <;> omega) | omega) (by unfold stI; omega)]; assumption) | omega) (by first | (refine Int.le_antisymm ?_ ?_ <;> omega) | omega) (by first | (refine Int.le_antisymm ?_ ?_ <;> omega) | omega)) (by have q := nxY_y (r := ((-1 : Int32)).toInt) (k := (gg (96 + 4 * a.toInt.toNat))) (y := co.toInt % 8) hgy hgb (by rewrite [← hr_]; first | assumption | (have z_ := (by assumption : (_ : Int32).toInt = co.toInt % 8); rewrite [← z_]; assumption) | (have z_ := (by assumption : (_ : Int32).toInt = co.toInt % 8); rewrite [← z_, ← oy_ 0 (by first | (refine Int.le_antisymm ?_ ?_ <;> omega) | omega) (by unfold stI; omega), ← oy_ 1 (by first | (refine Int.le_antisymm ?_ ?_ <;> omega) | omega) (by unfold stI; omega)]; assumption) | omega) (by first | (refine Int.le_antisymm ?_ ?_ <;> omega) | omega) (by first | (refine Int.le_antisymm ?_ ?_ <;> omega) | omega); omega)
        refine lv_aload_n S.1 S.2.1 dX9_steps_123 rfl (lv_at hl 3 rfl) ?_
        refine b_get (v := .ref y_city) S iX9 hK hP 0 rfl rfl 5 (by decide) (by decide +kernel) rfl dX9_steps_124 ?_
        refine lv_bipush (v := (96)) S.1 S.2.1 dX9_steps_127 (by decide) ?_
        refine lv_iconst (v := (4)) S.1 S.2.1 dX9_steps_129 (by decide) ?_
        refine lv_iload_n S.1 S.2.1 dX9_steps_130 rfl (lv_at hl 4 rfl) ?_
        refine lv_imul S.1 S.2.1 dX9_steps_131 ?_
        refine lv_topi (fun x_107 ex_107 => ?_)
        have tx_107 : x_107.toInt = 4 * a.toInt := mulI (A := 4) (B := a.toInt) ex_107 rfl rfl (by  omega) (by  omega)
        refine lv_iadd S.1 S.2.1 dX9_steps_132 ?_
        refine lv_topi (fun x_108 ex_108 => ?_)
        have tx_108 : x_108.toInt = 96 + (x_107.toInt) := addI (A := 96) (B := x_107.toInt) ex_108 rfl rfl (by  omega) (by  omega)
        refine lv_iconst (v := (3)) S.1 S.2.1 dX9_steps_133 (by decide) ?_
        refine lv_iadd S.1 S.2.1 dX9_steps_134 ?_
        refine lv_topi (fun x_109 ex_109 => ?_)
        have tx_109 : x_109.toInt = x_108.toInt + (3) := addI (A := x_108.toInt) (B := 3) ex_109 rfl rfl (by  omega) (by  omega)
        refine lv_dup2_11 S.1 S.2.1 dX9_steps_135 rfl rfl ?_
        have hin_110 : vp_in x_109 192 := (in_of (n := 192) (by  omega) (by  omega))
        refine va_iald S.1 S.2.1 hK.1 hP 1 0 rfl rfl hin_110 dX9_steps_136 ?_
        refine lv_topi (fun x_111 ex_111 => ?_)
        refine lv_iconst (v := (1)) S.1 S.2.1 dX9_steps_137 (by decide) ?_
        refine lv_iadd S.1 S.2.1 dX9_steps_138 ?_
        refine lv_topi (fun x_112 ex_112 => ?_)
        refine va_iast S.1 S.2.1 hK.1 hP hD hS 1 0 rfl rfl (in_of (n := 192) (by  omega) (by  omega)) dX9_steps_139 (fun H locs hP hD hS => ?_)
        obtain ⟨f_113, hf_113, rf_113⟩ : ∃ g, (upd cy x_109.toNatClampNeg (x_112)) = g ∧ prd cyK 192 g := ⟨_, rfl, cys_O (i := x_109) (v := x_112) (by assumption) (by first | (refine Int.le_antisymm ?_ ?_ <;> omega) | omega) (by first | (refine Int.le_antisymm ?_ ?_ <;> omega) | omega)⟩
        have of_113 : oE stI cy f_113 := oE_upd (by assumption) hf_113 (by first | (refine Int.le_antisymm ?_ ?_ <;> omega) | omega) (fun j hj hs => by unfold stI at hs; omega)
        have hP : va_P D vwCl [(y, .inr (9, [.int m_thrown, .int m_status, .ref y_lane, .ref y_many, .ref y_item, .ref y_city, .ref y_fresh, .int m_isThere, .ref y_tape, .int m_taped, .int m_latest, .int m_length, .int m_cursor, .int m_token, .int m_start, .int m_till, .int m_fault, .int m_faultAt, .int m_seen2_54, .int m_mirrors2_55, .ref y_cost, .ref y_away, .ref y_fee, .ref y_goesTo, .ref y_priceWas, .ref y_isKept, .ref y_kept, .ref y_trace, .int m_traced])), (y_city, .inl (cI, 192, .inl (upd cy x_109.toNatClampNeg (x_112))))] H := hP
        have hD : va_D A [(y, .inr (9, [.int m_thrown, .int m_status, .ref y_lane, .ref y_many, .ref y_item, .ref y_city, .ref y_fresh, .int m_isThere, .ref y_tape, .int m_taped, .int m_latest, .int m_length, .int m_cursor, .int m_token, .int m_start, .int m_till, .int m_fault, .int m_faultAt, .int m_seen2_54, .int m_mirrors2_55, .ref y_cost, .ref y_away, .ref y_fee, .ref y_goesTo, .ref y_priceWas, .ref y_isKept, .ref y_kept, .ref y_trace, .int m_traced])), (y_city, .inl (cI, 192, .inl (upd cy x_109.toNatClampNeg (x_112))))] := hD
        rw [hf_113] at hP hD
        refine lv_iload S.1 S.2.1 dX9_steps_140 (lv_at hl 1 rfl) ?_
        exact b_iret S.1 S.2.1 X.2.1 X.2.2.1 hP hD hS ⟨m_seen2_54, m_mirrors2_55, f_113, (by first | with_reducible assumption | assumption | omega | decide | (rw [show Int32.toInt 0 = 0 from rfl]; omega)), (by first | with_reducible assumption | (and_intros <;> first | with_reducible assumption | (intros; refine Int.le_antisymm ?_ ?_ <;> omega) | omega) | assumption | decide | (rw [show Int32.toInt 0 = 0 from rfl]; omega)), (by first | with_reducible assumption | assumption | omega | decide | (rw [show Int32.toInt 0 = 0 from rfl]; omega)), py_.1, (CYd_s pl_ (by first | (refine Int.le_antisymm ?_ ?_ <;> omega) | omega) (by first | (refine Int.le_antisymm ?_ ?_ <;> omega) | omega) (by assumption) (by assumption) (by assumption) (by first | (refine Int.le_antisymm ?_ ?_ <;> omega) | omega)), rfl⟩ dX9_steps_142
    · rw [lt2 (a := r_59) (b := 0) (A := r_59.toInt) (B := 0) rfl rfl] at c_69
      refine lv_aload_n S.1 S.2.1 dX9_steps_40 rfl (lv_at hl 3 rfl) ?_
      refine b_get (v := .ref y_city) S iX9 hK hP 0 rfl rfl 5 (by decide) (by decide +kernel) rfl dX9_steps_41 ?_
      refine lv_bipush (v := (120)) S.1 S.2.1 dX9_steps_44 (by decide) ?_
      refine lv_bipush (v := (6)) S.1 S.2.1 dX9_steps_46 (by decide) ?_
      refine lv_iload_n S.1 S.2.1 dX9_steps_48 rfl (lv_at hl 4 rfl) ?_
      refine lv_imul S.1 S.2.1 dX9_steps_49 ?_
      refine lv_topi (fun x_114 ex_114 => ?_)
      have tx_114 : x_114.toInt = 6 * a.toInt := mulI (A := 6) (B := a.toInt) ex_114 rfl rfl (by  omega) (by  omega)
      refine lv_iadd S.1 S.2.1 dX9_steps_50 ?_
      refine lv_topi (fun x_115 ex_115 => ?_)
      have tx_115 : x_115.toInt = 120 + (x_114.toInt) := addI (A := 120) (B := x_114.toInt) ex_115 rfl rfl (by  omega) (by  omega)
      refine lv_iload S.1 S.2.1 dX9_steps_51 (lv_at hl 1 rfl) ?_
      refine lv_iadd S.1 S.2.1 dX9_steps_53 ?_
      refine lv_topi (fun x_116 ex_116 => ?_)
      have tx_116 : x_116.toInt = x_115.toInt + (r_59.toInt) := addI (A := x_115.toInt) (B := r_59.toInt) ex_116 rfl rfl (by  omega) (by  omega)
      refine lv_dup2_11 S.1 S.2.1 dX9_steps_54 rfl rfl ?_
      have hin_117 : vp_in x_116 192 := (in_of (n := 192) (by  omega) (by  omega))
      refine va_iald S.1 S.2.1 hK.1 hP 1 0 rfl rfl hin_117 dX9_steps_55 ?_
      refine lv_topi (fun x_118 ex_118 => ?_)
      refine lv_iload S.1 S.2.1 dX9_steps_56 (lv_at hl 0 rfl) ?_
      refine lv_iadd S.1 S.2.1 dX9_steps_58 ?_
      refine lv_topi (fun x_119 ex_119 => ?_)
      refine va_iast S.1 S.2.1 hK.1 hP hD hS 1 0 rfl rfl (in_of (n := 192) (by  omega) (by  omega)) dX9_steps_59 (fun H locs hP hD hS => ?_)
      obtain ⟨f_120, hf_120, rf_120⟩ : ∃ g, (upd cy x_116.toNatClampNeg (x_119)) = g ∧ prd cyK 192 g := ⟨_, rfl, cys_F (i := x_116) (v := x_119) (by assumption) (by first | (refine Int.le_antisymm ?_ ?_ <;> omega) | omega)⟩
      have of_120 : oE stI cy f_120 := oE_upd (by assumption) hf_120 (by first | (refine Int.le_antisymm ?_ ?_ <;> omega) | omega) (fun j hj hs => by unfold stI at hs; omega)
      have hP : va_P D vwCl [(y, .inr (9, [.int m_thrown, .int m_status, .ref y_lane, .ref y_many, .ref y_item, .ref y_city, .ref y_fresh, .int m_isThere, .ref y_tape, .int m_taped, .int m_latest, .int m_length, .int m_cursor, .int m_token, .int m_start, .int m_till, .int m_fault, .int m_faultAt, .int m_seen2_54, .int m_mirrors2_55, .ref y_cost, .ref y_away, .ref y_fee, .ref y_goesTo, .ref y_priceWas, .ref y_isKept, .ref y_kept, .ref y_trace, .int m_traced])), (y_city, .inl (cI, 192, .inl (upd cy x_116.toNatClampNeg (x_119))))] H := hP
      have hD : va_D A [(y, .inr (9, [.int m_thrown, .int m_status, .ref y_lane, .ref y_many, .ref y_item, .ref y_city, .ref y_fresh, .int m_isThere, .ref y_tape, .int m_taped, .int m_latest, .int m_length, .int m_cursor, .int m_token, .int m_start, .int m_till, .int m_fault, .int m_faultAt, .int m_seen2_54, .int m_mirrors2_55, .ref y_cost, .ref y_away, .ref y_fee, .ref y_goesTo, .ref y_priceWas, .ref y_isKept, .ref y_kept, .ref y_trace, .int m_traced])), (y_city, .inl (cI, 192, .inl (upd cy x_116.toNatClampNeg (x_119))))] := hD
      rw [hf_120] at hP hD
      refine lv_aload_n S.1 S.2.1 dX9_steps_60 rfl (lv_at hl 3 rfl) ?_
      refine b_get (v := .ref y_city) S iX9 hK hP 0 rfl rfl 5 (by decide) (by decide +kernel) rfl dX9_steps_61 ?_
      refine lv_sipush (v := (156)) S.1 S.2.1 dX9_steps_64 (by decide) ?_
      refine lv_bipush (v := (6)) S.1 S.2.1 dX9_steps_67 (by decide) ?_
      refine lv_iload_n S.1 S.2.1 dX9_steps_69 rfl (lv_at hl 4 rfl) ?_
      refine lv_imul S.1 S.2.1 dX9_steps_70 ?_
      refine lv_topi (fun x_121 ex_121 => ?_)
      have tx_121 : x_121.toInt = 6 * a.toInt := mulI (A := 6) (B := a.toInt) ex_121 rfl rfl (by  omega) (by  omega)
      refine lv_iadd S.1 S.2.1 dX9_steps_71 ?_
      refine lv_topi (fun x_122 ex_122 => ?_)
      have tx_122 : x_122.toInt = 156 + (x_121.toInt) := addI (A := 156) (B := x_121.toInt) ex_122 rfl rfl (by  omega) (by  omega)
      refine lv_iload S.1 S.2.1 dX9_steps_72 (lv_at hl 1 rfl) ?_
      refine lv_iadd S.1 S.2.1 dX9_steps_74 ?_
      refine lv_topi (fun x_123 ex_123 => ?_)
      have tx_123 : x_123.toInt = x_122.toInt + (r_59.toInt) := addI (A := x_122.toInt) (B := r_59.toInt) ex_123 rfl rfl (by  omega) (by  omega)
      refine lv_dup2_11 S.1 S.2.1 dX9_steps_75 rfl rfl ?_
      have hin_124 : vp_in x_123 192 := (in_of (n := 192) (by  omega) (by  omega))
      refine va_iald S.1 S.2.1 hK.1 hP 1 0 rfl rfl hin_124 dX9_steps_76 ?_
      refine lv_topi (fun x_125 ex_125 => ?_)
      refine lv_iconst (v := (1)) S.1 S.2.1 dX9_steps_77 (by decide) ?_
      refine lv_iadd S.1 S.2.1 dX9_steps_78 ?_
      refine lv_topi (fun x_126 ex_126 => ?_)
      refine va_iast S.1 S.2.1 hK.1 hP hD hS 1 0 rfl rfl (in_of (n := 192) (by  omega) (by  omega)) dX9_steps_79 (fun H locs hP hD hS => ?_)
      obtain ⟨f_127, hf_127, rf_127⟩ : ∃ g, (upd f_120 x_123.toNatClampNeg (x_126)) = g ∧ prd cyK 192 g := ⟨_, rfl, cys_F (i := x_123) (v := x_126) (by assumption) (by first | (refine Int.le_antisymm ?_ ?_ <;> omega) | omega)⟩
      have of_127 : oE stI cy f_127 := oE_upd (by assumption) hf_127 (by first | (refine Int.le_antisymm ?_ ?_ <;> omega) | omega) (fun j hj hs => by unfold stI at hs; omega)
      have hP : va_P D vwCl [(y, .inr (9, [.int m_thrown, .int m_status, .ref y_lane, .ref y_many, .ref y_item, .ref y_city, .ref y_fresh, .int m_isThere, .ref y_tape, .int m_taped, .int m_latest, .int m_length, .int m_cursor, .int m_token, .int m_start, .int m_till, .int m_fault, .int m_faultAt, .int m_seen2_54, .int m_mirrors2_55, .ref y_cost, .ref y_away, .ref y_fee, .ref y_goesTo, .ref y_priceWas, .ref y_isKept, .ref y_kept, .ref y_trace, .int m_traced])), (y_city, .inl (cI, 192, .inl (upd f_120 x_123.toNatClampNeg (x_126))))] H := hP
      have hD : va_D A [(y, .inr (9, [.int m_thrown, .int m_status, .ref y_lane, .ref y_many, .ref y_item, .ref y_city, .ref y_fresh, .int m_isThere, .ref y_tape, .int m_taped, .int m_latest, .int m_length, .int m_cursor, .int m_token, .int m_start, .int m_till, .int m_fault, .int m_faultAt, .int m_seen2_54, .int m_mirrors2_55, .ref y_cost, .ref y_away, .ref y_fee, .ref y_goesTo, .ref y_priceWas, .ref y_isKept, .ref y_kept, .ref y_trace, .int m_traced])), (y_city, .inl (cI, 192, .inl (upd f_120 x_123.toNatClampNeg (x_126))))] := hD
      rw [hf_127] at hP hD
      have py_ : (r_64).toInt = coG gg a.toInt co.toInt ∧ CYd (gaG gg a.toInt co.toInt) f_127 := by first | exact payY_N hcd (by first | (refine Int.le_antisymm ?_ ?_ <;> omega) | omega) rfl | exact payY_A hcd hr_ (by assumption) (by assumption) (by first | (refine Int.le_antisymm ?_ ?_ <;> omega) | omega) (by first | (refine Int.le_antisymm ?_ ?_ <;> omega) | omega) (by assumption) | exact payY_B (o := (r_59).toInt) hcd hr_ (by assumption) (by assumption) (by first | (refine Int.le_antisymm ?_ ?_ <;> omega) | omega) (by first | (refine Int.le_antisymm ?_ ?_ <;> omega) | omega) (by assumption) (by first | (refine Int.le_antisymm ?_ ?_ <;> omega) | omega) (by first | (refine Int.le_antisymm ?_ ?_ <;> omega) | omega) (by assumption) (by assumption) (by assumption) (by assumption) (by assumption) (by assumption) (by first | (refine Int.le_antisymm ?_ ?_ <;> omega) | omega) (by first | (refine Int.le_antisymm ?_ ?_ <;> omega) | omega)
      have oy_ : oE stI cy f_127 := by assumption
      refine lv_aload_n S.1 S.2.1 dX9_steps_80 rfl (lv_at hl 3 rfl) ?_
      refine lv_iload_n S.1 S.2.1 dX9_steps_81 rfl (lv_at hl 2 rfl) ?_
      refine lv_iload_n S.1 S.2.1 dX9_steps_82 rfl (lv_at hl 5 rfl) ?_
      refine lv_bipush (v := (8)) S.1 S.2.1 dX9_steps_83 (by decide) ?_
      refine lv_irem S.1 S.2.1 dX9_steps_85 (by decide) ?_
      refine lv_topi (fun x_128 ex_128 => ?_)
      have tx_128 : x_128.toInt = co.toInt % 8 := remI (A := co.toInt) (B := 8) ex_128 rfl rfl (by  omega) (by decide)
      refine b_ai (wr := []) (b_runV (q0 := 0) (ci := 9) (As := [.int r_1, .int x_128]) (s_X9_nextTo l D cI cZ cC cS sq H.size y y_city r_1 x_128 m_thrown m_status y_lane y_many y_item y_fresh m_isThere y_tape m_taped m_latest m_length m_cursor m_token m_start m_till m_fault m_faultAt m_seen2_54 m_mirrors2_55 y_cost y_away y_fee y_goesTo y_priceWas y_isKept y_kept y_trace m_traced f_127 (by first | with_reducible assumption | assumption | omega | decide | (rw [show Int32.toInt 0 = 0 from rfl]; omega)) (by first | with_reducible assumption | (and_intros <;> first | with_reducible assumption | (intros; refine Int.le_antisymm ?_ ?_ <;> omega) | omega) | assumption | decide | (rw [show Int32.toInt 0 = 0 from rfl]; omega)) (by first | with_reducible assumption | (and_intros <;> first | with_reducible assumption | (intros; refine Int.le_antisymm ?_ ?_ <;> omega) | omega) | assumption | decide | (rw [show Int32.toInt 0 = 0 from rfl]; omega))) S gX9_steps_X9_nextTo rfl hdV_X9_nextTo ⟨Nat.le_of_ble_eq_true rfl, Nat.le_of_ble_eq_true rfl⟩ ⟨Nat.le_of_ble_eq_true rfl, Nat.le_of_ble_eq_true rfl⟩ hK hT hS hA hP hD rfl rfl [0, 1] rfl (by decide) rfl hl.1 rfl (Nat.le_of_ble_eq_true rfl) dX9_steps_86) hP hD hS hA [0, 1] [] rfl rfl (by decide) (by decide) (fun r_129 w_130 H locs hw_131 hP hD hS => ?_)
      rcases hw_131 with ⟨hf_132, hf_133, rfl⟩ | ⟨hf_134, rfl, rfl⟩
      · have hP : va_P D vwCl [(y, .inr (9, [.int m_thrown, .int m_status, .ref y_lane, .ref y_many, .ref y_item, .ref y_city, .ref y_fresh, .int m_isThere, .ref y_tape, .int m_taped, .int m_latest, .int m_length, .int m_cursor, .int m_token, .int m_start, .int m_till, .int m_fault, .int m_faultAt, .int m_seen2_54, .int m_mirrors2_55, .ref y_cost, .ref y_away, .ref y_fee, .ref y_goesTo, .ref y_priceWas, .ref y_isKept, .ref y_kept, .ref y_trace, .int m_traced])), (y_city, .inl (cI, 192, .inl f_127))] H := hP
        have hD : va_D A [(y, .inr (9, [.int m_thrown, .int m_status, .ref y_lane, .ref y_many, .ref y_item, .ref y_city, .ref y_fresh, .int m_isThere, .ref y_tape, .int m_taped, .int m_latest, .int m_length, .int m_cursor, .int m_token, .int m_start, .int m_till, .int m_fault, .int m_faultAt, .int m_seen2_54, .int m_mirrors2_55, .ref y_cost, .ref y_away, .ref y_fee, .ref y_goesTo, .ref y_priceWas, .ref y_isKept, .ref y_kept, .ref y_trace, .int m_traced])), (y_city, .inl (cI, 192, .inl f_127))] := hD
        refine lv_istore (lv' := [(5, .int r_129), (4, .int r_64), (3, .int r_1), (0, .ref y), (1, .int a), (2, .int co)]) S.1 S.2.1 dX9_steps_89 hl (by decide) rfl (fun ls hl => ?_)
        refine lv_iload S.1 S.2.1 dX9_steps_91 (lv_at hl 0 rfl) ?_
        refine lv_if_lt (tgt := 123) S.1 S.2.1 dX9_steps_93 (by decide) (fun c_135 => ?_) (fun c_135 => ?_)
        · rw [lt2 (a := r_129) (b := 0) (A := r_129.toInt) (B := 0) rfl rfl] at c_135
          have ga3 := gaG_o (g := gg) (p := a.toInt) (co := co.toInt) (j := 3) hgo (by first | (refine Int.le_antisymm ?_ ?_ <;> omega) | omega) (by first | (refine Int.le_antisymm ?_ ?_ <;> omega) | omega) (by decide)
          have gn3 := gnG_3 (g := (gaG gg a.toInt co.toInt)) (p := a.toInt) (n := (nxT gg (gg (96 + 4 * a.toInt.toNat)) (co.toInt % 8))) (by first | (refine Int.le_antisymm ?_ ?_ <;> omega) | omega)
          have pl_ : CYd (gnG (gaG gg a.toInt co.toInt) a.toInt (nxT gg (gg (96 + 4 * a.toInt.toNat)) (co.toInt % 8))) f_127 := by first | exact CYd_n0 py_.2 (nxY_n hgy hgb (by rewrite [← hr_]; first | assumption | (have z_ := (by assumption : (_ : Int32).toInt = co.toInt % 8); rewrite [← z_]; assumption) | (have z_ := (by assumption : (_ : Int32).toInt = co.toInt % 8); rewrite [← z_, ← oy_ 0 (by first | (refine Int.le_antisymm ?_ ?_ <;> omega) | omega) (by unfold stI; omega), ← oy_ 1 (by first | (refine Int.le_antisymm ?_ ?_ <;> omega) | omega) (by unfold stI; omega)]; assumption) | omega) (by first | exact Or.inl (by first | (refine Int.le_antisymm ?_ ?_ <;> omega) | omega) | exact Or.inr (by first | (refine Int.le_antisymm ?_ ?_ <;> omega) | omega))) | exact CYd_n py_.2 (by first | (refine Int.le_antisymm ?_ ?_ <;> omega) | omega) (by first | (refine Int.le_antisymm ?_ ?_ <;> omega) | omega) (by assumption) (by first | (refine Int.le_antisymm ?_ ?_ <;> omega) | omega) (nxY_y hgy hgb (by rewrite [← hr_]; first | assumption | (have z_ := (by assumption : (_ : Int32).toInt = co.toInt % 8); rewrite [← z_]; assumption) | (have z_ := (by assumption : (_ : Int32).toInt = co.toInt % 8); rewrite [← z_, ← oy_ 0 (by first | (refine Int.le_antisymm ?_ ?_ <;> omega) | omega) (by unfold stI; omega), ← oy_ 1 (by first | (refine Int.le_antisymm ?_ ?_ <;> omega) | omega) (by unfold stI; omega)]; assumption) | omega) (by first | (refine Int.le_antisymm ?_ ?_ <;> omega) | omega) (by first | (refine Int.le_antisymm ?_ ?_ <;> omega) | omega)) (by have q := nxY_y (r := (r_129).toInt) (k := (gg (96 + 4 * a.toInt.toNat))) (y := co.toInt % 8) hgy hgb (by rewrite [← hr_]; first | assumption | (have z_ := (by assumption : (_ : Int32).toInt = co.toInt % 8); rewrite [← z_]; assumption) | (have z_ := (by assumption : (_ : Int32).toInt = co.toInt % 8); rewrite [← z_, ← oy_ 0 (by first | (refine Int.le_antisymm ?_ ?_ <;> omega) | omega) (by unfold stI; omega), ← oy_ 1 (by first | (refine Int.le_antisymm ?_ ?_ <;> omega) | omega) (by unfold stI; omega)]; assumption) | omega) (by first | (refine Int.le_antisymm ?_ ?_ <;> omega) | omega) (by first | (refine Int.le_antisymm ?_ ?_ <;> omega) | omega); omega)
          refine lv_aload_n S.1 S.2.1 dX9_steps_123 rfl (lv_at hl 3 rfl) ?_
          refine b_get (v := .ref y_city) S iX9 hK hP 0 rfl rfl 5 (by decide) (by decide +kernel) rfl dX9_steps_124 ?_
          refine lv_bipush (v := (96)) S.1 S.2.1 dX9_steps_127 (by decide) ?_
          refine lv_iconst (v := (4)) S.1 S.2.1 dX9_steps_129 (by decide) ?_
          refine lv_iload_n S.1 S.2.1 dX9_steps_130 rfl (lv_at hl 4 rfl) ?_
          refine lv_imul S.1 S.2.1 dX9_steps_131 ?_
          refine lv_topi (fun x_136 ex_136 => ?_)
          have tx_136 : x_136.toInt = 4 * a.toInt := mulI (A := 4) (B := a.toInt) ex_136 rfl rfl (by  omega) (by  omega)
          refine lv_iadd S.1 S.2.1 dX9_steps_132 ?_
          refine lv_topi (fun x_137 ex_137 => ?_)
          have tx_137 : x_137.toInt = 96 + (x_136.toInt) := addI (A := 96) (B := x_136.toInt) ex_137 rfl rfl (by  omega) (by  omega)
          refine lv_iconst (v := (3)) S.1 S.2.1 dX9_steps_133 (by decide) ?_
          refine lv_iadd S.1 S.2.1 dX9_steps_134 ?_
          refine lv_topi (fun x_138 ex_138 => ?_)
          have tx_138 : x_138.toInt = x_137.toInt + (3) := addI (A := x_137.toInt) (B := 3) ex_138 rfl rfl (by  omega) (by  omega)
          refine lv_dup2_11 S.1 S.2.1 dX9_steps_135 rfl rfl ?_
          have hin_139 : vp_in x_138 192 := (in_of (n := 192) (by  omega) (by  omega))
          refine va_iald S.1 S.2.1 hK.1 hP 1 0 rfl rfl hin_139 dX9_steps_136 ?_
          refine lv_topi (fun x_140 ex_140 => ?_)
          refine lv_iconst (v := (1)) S.1 S.2.1 dX9_steps_137 (by decide) ?_
          refine lv_iadd S.1 S.2.1 dX9_steps_138 ?_
          refine lv_topi (fun x_141 ex_141 => ?_)
          refine va_iast S.1 S.2.1 hK.1 hP hD hS 1 0 rfl rfl (in_of (n := 192) (by  omega) (by  omega)) dX9_steps_139 (fun H locs hP hD hS => ?_)
          obtain ⟨f_142, hf_142, rf_142⟩ : ∃ g, (upd f_127 x_138.toNatClampNeg (x_141)) = g ∧ prd cyK 192 g := ⟨_, rfl, cys_O (i := x_138) (v := x_141) (by assumption) (by first | (refine Int.le_antisymm ?_ ?_ <;> omega) | omega) (by first | (refine Int.le_antisymm ?_ ?_ <;> omega) | omega)⟩
          have of_142 : oE stI cy f_142 := oE_upd (by assumption) hf_142 (by first | (refine Int.le_antisymm ?_ ?_ <;> omega) | omega) (fun j hj hs => by unfold stI at hs; omega)
          have hP : va_P D vwCl [(y, .inr (9, [.int m_thrown, .int m_status, .ref y_lane, .ref y_many, .ref y_item, .ref y_city, .ref y_fresh, .int m_isThere, .ref y_tape, .int m_taped, .int m_latest, .int m_length, .int m_cursor, .int m_token, .int m_start, .int m_till, .int m_fault, .int m_faultAt, .int m_seen2_54, .int m_mirrors2_55, .ref y_cost, .ref y_away, .ref y_fee, .ref y_goesTo, .ref y_priceWas, .ref y_isKept, .ref y_kept, .ref y_trace, .int m_traced])), (y_city, .inl (cI, 192, .inl (upd f_127 x_138.toNatClampNeg (x_141))))] H := hP
          have hD : va_D A [(y, .inr (9, [.int m_thrown, .int m_status, .ref y_lane, .ref y_many, .ref y_item, .ref y_city, .ref y_fresh, .int m_isThere, .ref y_tape, .int m_taped, .int m_latest, .int m_length, .int m_cursor, .int m_token, .int m_start, .int m_till, .int m_fault, .int m_faultAt, .int m_seen2_54, .int m_mirrors2_55, .ref y_cost, .ref y_away, .ref y_fee, .ref y_goesTo, .ref y_priceWas, .ref y_isKept, .ref y_kept, .ref y_trace, .int m_traced])), (y_city, .inl (cI, 192, .inl (upd f_127 x_138.toNatClampNeg (x_141))))] := hD
          rw [hf_142] at hP hD
          refine lv_iload S.1 S.2.1 dX9_steps_140 (lv_at hl 1 rfl) ?_
          exact b_iret S.1 S.2.1 X.2.1 X.2.2.1 hP hD hS ⟨m_seen2_54, m_mirrors2_55, f_142, (by first | with_reducible assumption | assumption | omega | decide | (rw [show Int32.toInt 0 = 0 from rfl]; omega)), (by first | with_reducible assumption | (and_intros <;> first | with_reducible assumption | (intros; refine Int.le_antisymm ?_ ?_ <;> omega) | omega) | assumption | decide | (rw [show Int32.toInt 0 = 0 from rfl]; omega)), (by first | with_reducible assumption | assumption | omega | decide | (rw [show Int32.toInt 0 = 0 from rfl]; omega)), py_.1, (CYd_s pl_ (by first | (refine Int.le_antisymm ?_ ?_ <;> omega) | omega) (by first | (refine Int.le_antisymm ?_ ?_ <;> omega) | omega) (by assumption) (by assumption) (by assumption) (by first | (refine Int.le_antisymm ?_ ?_ <;> omega) | omega)), rfl⟩ dX9_steps_142
        · rw [lt2 (a := r_129) (b := 0) (A := r_129.toInt) (B := 0) rfl rfl] at c_135
          refine lv_aload_n S.1 S.2.1 dX9_steps_96 rfl (lv_at hl 3 rfl) ?_
          refine b_get (v := .ref y_city) S iX9 hK hP 0 rfl rfl 5 (by decide) (by decide +kernel) rfl dX9_steps_97 ?_
          refine lv_iconst (v := (4)) S.1 S.2.1 dX9_steps_100 (by decide) ?_
          refine lv_iload S.1 S.2.1 dX9_steps_101 (lv_at hl 0 rfl) ?_
          refine lv_iadd S.1 S.2.1 dX9_steps_103 ?_
          refine lv_topi (fun x_143 ex_143 => ?_)
          have tx_143 : x_143.toInt = 4 + (r_129.toInt) := addI (A := 4) (B := r_129.toInt) ex_143 rfl rfl (by  omega) (by  omega)
          have hin_144 : vp_in x_143 192 := (in_of (n := 192) (by  omega) (by  omega))
          refine va_iald S.1 S.2.1 hK.1 hP 1 0 rfl rfl hin_144 dX9_steps_104 ?_
          refine lv_topi (fun x_145 ex_145 => ?_)
          have tx_145 := cyg_A (x := x_145) (show prd cyK 192 f_127 by assumption) (by first | (refine Int.le_antisymm ?_ ?_ <;> omega) | omega) ex_145
          have cn_ : x_145.toInt = (cy (4 + (r_129).toInt.toNat)).toInt := by rw [ex_145]; exact (congrArg (fun z => (f_127 z).toInt) (by show (x_143).toInt.toNat = 4 + (r_129).toInt.toNat; omega)).trans (congrArg Int32.toInt (oy_ (4 + (r_129).toInt.toNat) (by first | (refine Int.le_antisymm ?_ ?_ <;> omega) | omega) (by unfold stI; omega)))
          refine lv_bipush (v := (-3)) S.1 S.2.1 dX9_steps_105 (by decide) ?_
          refine lv_icmp_ne (tgt := 123) S.1 S.2.1 dX9_steps_107 (by decide) (fun c_146 => ?_) (fun c_146 => ?_)
          · rw [eq2 (a := x_145) (b := (-3)) (A := x_145.toInt) (B := -3) rfl rfl] at c_146
            have ga3 := gaG_o (g := gg) (p := a.toInt) (co := co.toInt) (j := 3) hgo (by first | (refine Int.le_antisymm ?_ ?_ <;> omega) | omega) (by first | (refine Int.le_antisymm ?_ ?_ <;> omega) | omega) (by decide)
            have gn3 := gnG_3 (g := (gaG gg a.toInt co.toInt)) (p := a.toInt) (n := (nxT gg (gg (96 + 4 * a.toInt.toNat)) (co.toInt % 8))) (by first | (refine Int.le_antisymm ?_ ?_ <;> omega) | omega)
            have pl_ : CYd (gnG (gaG gg a.toInt co.toInt) a.toInt (nxT gg (gg (96 + 4 * a.toInt.toNat)) (co.toInt % 8))) f_127 := by first | exact CYd_n0 py_.2 (nxY_n hgy hgb (by rewrite [← hr_]; first | assumption | (have z_ := (by assumption : (_ : Int32).toInt = co.toInt % 8); rewrite [← z_]; assumption) | (have z_ := (by assumption : (_ : Int32).toInt = co.toInt % 8); rewrite [← z_, ← oy_ 0 (by first | (refine Int.le_antisymm ?_ ?_ <;> omega) | omega) (by unfold stI; omega), ← oy_ 1 (by first | (refine Int.le_antisymm ?_ ?_ <;> omega) | omega) (by unfold stI; omega)]; assumption) | omega) (by first | exact Or.inl (by first | (refine Int.le_antisymm ?_ ?_ <;> omega) | omega) | exact Or.inr (by first | (refine Int.le_antisymm ?_ ?_ <;> omega) | omega))) | exact CYd_n py_.2 (by first | (refine Int.le_antisymm ?_ ?_ <;> omega) | omega) (by first | (refine Int.le_antisymm ?_ ?_ <;> omega) | omega) (by assumption) (by first | (refine Int.le_antisymm ?_ ?_ <;> omega) | omega) (nxY_y hgy hgb (by rewrite [← hr_]; first | assumption | (have z_ := (by assumption : (_ : Int32).toInt = co.toInt % 8); rewrite [← z_]; assumption) | (have z_ := (by assumption : (_ : Int32).toInt = co.toInt % 8); rewrite [← z_, ← oy_ 0 (by first | (refine Int.le_antisymm ?_ ?_ <;> omega) | omega) (by unfold stI; omega), ← oy_ 1 (by first | (refine Int.le_antisymm ?_ ?_ <;> omega) | omega) (by unfold stI; omega)]; assumption) | omega) (by first | (refine Int.le_antisymm ?_ ?_ <;> omega) | omega) (by first | (refine Int.le_antisymm ?_ ?_ <;> omega) | omega)) (by have q := nxY_y (r := (r_129).toInt) (k := (gg (96 + 4 * a.toInt.toNat))) (y := co.toInt % 8) hgy hgb (by rewrite [← hr_]; first | assumption | (have z_ := (by assumption : (_ : Int32).toInt = co.toInt % 8); rewrite [← z_]; assumption) | (have z_ := (by assumption : (_ : Int32).toInt = co.toInt % 8); rewrite [← z_, ← oy_ 0 (by first | (refine Int.le_antisymm ?_ ?_ <;> omega) | omega) (by unfold stI; omega), ← oy_ 1 (by first | (refine Int.le_antisymm ?_ ?_ <;> omega) | omega) (by unfold stI; omega)]; assumption) | omega) (by first | (refine Int.le_antisymm ?_ ?_ <;> omega) | omega) (by first | (refine Int.le_antisymm ?_ ?_ <;> omega) | omega); omega)
            refine lv_aload_n S.1 S.2.1 dX9_steps_123 rfl (lv_at hl 3 rfl) ?_
            refine b_get (v := .ref y_city) S iX9 hK hP 0 rfl rfl 5 (by decide) (by decide +kernel) rfl dX9_steps_124 ?_
            refine lv_bipush (v := (96)) S.1 S.2.1 dX9_steps_127 (by decide) ?_
            refine lv_iconst (v := (4)) S.1 S.2.1 dX9_steps_129 (by decide) ?_
            refine lv_iload_n S.1 S.2.1 dX9_steps_130 rfl (lv_at hl 4 rfl) ?_
            refine lv_imul S.1 S.2.1 dX9_steps_131 ?_
            refine lv_topi (fun x_147 ex_147 => ?_)
            have tx_147 : x_147.toInt = 4 * a.toInt := mulI (A := 4) (B := a.toInt) ex_147 rfl rfl (by  omega) (by  omega)
            refine lv_iadd S.1 S.2.1 dX9_steps_132 ?_
            refine lv_topi (fun x_148 ex_148 => ?_)
            have tx_148 : x_148.toInt = 96 + (x_147.toInt) := addI (A := 96) (B := x_147.toInt) ex_148 rfl rfl (by  omega) (by  omega)
            refine lv_iconst (v := (3)) S.1 S.2.1 dX9_steps_133 (by decide) ?_
            refine lv_iadd S.1 S.2.1 dX9_steps_134 ?_
            refine lv_topi (fun x_149 ex_149 => ?_)
            have tx_149 : x_149.toInt = x_148.toInt + (3) := addI (A := x_148.toInt) (B := 3) ex_149 rfl rfl (by  omega) (by  omega)
            refine lv_dup2_11 S.1 S.2.1 dX9_steps_135 rfl rfl ?_
            have hin_150 : vp_in x_149 192 := (in_of (n := 192) (by  omega) (by  omega))
            refine va_iald S.1 S.2.1 hK.1 hP 1 0 rfl rfl hin_150 dX9_steps_136 ?_
            refine lv_topi (fun x_151 ex_151 => ?_)
            refine lv_iconst (v := (1)) S.1 S.2.1 dX9_steps_137 (by decide) ?_
            refine lv_iadd S.1 S.2.1 dX9_steps_138 ?_
            refine lv_topi (fun x_152 ex_152 => ?_)
            refine va_iast S.1 S.2.1 hK.1 hP hD hS 1 0 rfl rfl (in_of (n := 192) (by  omega) (by  omega)) dX9_steps_139 (fun H locs hP hD hS => ?_)
            obtain ⟨f_153, hf_153, rf_153⟩ : ∃ g, (upd f_127 x_149.toNatClampNeg (x_152)) = g ∧ prd cyK 192 g := ⟨_, rfl, cys_O (i := x_149) (v := x_152) (by assumption) (by first | (refine Int.le_antisymm ?_ ?_ <;> omega) | omega) (by first | (refine Int.le_antisymm ?_ ?_ <;> omega) | omega)⟩
            have of_153 : oE stI cy f_153 := oE_upd (by assumption) hf_153 (by first | (refine Int.le_antisymm ?_ ?_ <;> omega) | omega) (fun j hj hs => by unfold stI at hs; omega)
            have hP : va_P D vwCl [(y, .inr (9, [.int m_thrown, .int m_status, .ref y_lane, .ref y_many, .ref y_item, .ref y_city, .ref y_fresh, .int m_isThere, .ref y_tape, .int m_taped, .int m_latest, .int m_length, .int m_cursor, .int m_token, .int m_start, .int m_till, .int m_fault, .int m_faultAt, .int m_seen2_54, .int m_mirrors2_55, .ref y_cost, .ref y_away, .ref y_fee, .ref y_goesTo, .ref y_priceWas, .ref y_isKept, .ref y_kept, .ref y_trace, .int m_traced])), (y_city, .inl (cI, 192, .inl (upd f_127 x_149.toNatClampNeg (x_152))))] H := hP
            have hD : va_D A [(y, .inr (9, [.int m_thrown, .int m_status, .ref y_lane, .ref y_many, .ref y_item, .ref y_city, .ref y_fresh, .int m_isThere, .ref y_tape, .int m_taped, .int m_latest, .int m_length, .int m_cursor, .int m_token, .int m_start, .int m_till, .int m_fault, .int m_faultAt, .int m_seen2_54, .int m_mirrors2_55, .ref y_cost, .ref y_away, .ref y_fee, .ref y_goesTo, .ref y_priceWas, .ref y_isKept, .ref y_kept, .ref y_trace, .int m_traced])), (y_city, .inl (cI, 192, .inl (upd f_127 x_149.toNatClampNeg (x_152))))] := hD
            rw [hf_153] at hP hD
            refine lv_iload S.1 S.2.1 dX9_steps_140 (lv_at hl 1 rfl) ?_
            exact b_iret S.1 S.2.1 X.2.1 X.2.2.1 hP hD hS ⟨m_seen2_54, m_mirrors2_55, f_153, (by first | with_reducible assumption | assumption | omega | decide | (rw [show Int32.toInt 0 = 0 from rfl]; omega)), (by first | with_reducible assumption | (and_intros <;> first | with_reducible assumption | (intros; refine Int.le_antisymm ?_ ?_ <;> omega) | omega) | assumption | decide | (rw [show Int32.toInt 0 = 0 from rfl]; omega)), (by first | with_reducible assumption | assumption | omega | decide | (rw [show Int32.toInt 0 = 0 from rfl]; omega)), py_.1, (CYd_s pl_ (by first | (refine Int.le_antisymm ?_ ?_ <;> omega) | omega) (by first | (refine Int.le_antisymm ?_ ?_ <;> omega) | omega) (by assumption) (by assumption) (by assumption) (by first | (refine Int.le_antisymm ?_ ?_ <;> omega) | omega)), rfl⟩ dX9_steps_142
          · rw [eq2 (a := x_145) (b := (-3)) (A := x_145.toInt) (B := -3) rfl rfl] at c_146
            refine lv_aload_n S.1 S.2.1 dX9_steps_110 rfl (lv_at hl 3 rfl) ?_
            refine b_get (v := .ref y_city) S iX9 hK hP 0 rfl rfl 5 (by decide) (by decide +kernel) rfl dX9_steps_111 ?_
            refine lv_bipush (v := (96)) S.1 S.2.1 dX9_steps_114 (by decide) ?_
            refine lv_iconst (v := (4)) S.1 S.2.1 dX9_steps_116 (by decide) ?_
            refine lv_iload_n S.1 S.2.1 dX9_steps_117 rfl (lv_at hl 4 rfl) ?_
            refine lv_imul S.1 S.2.1 dX9_steps_118 ?_
            refine lv_topi (fun x_154 ex_154 => ?_)
            have tx_154 : x_154.toInt = 4 * a.toInt := mulI (A := 4) (B := a.toInt) ex_154 rfl rfl (by  omega) (by  omega)
            refine lv_iadd S.1 S.2.1 dX9_steps_119 ?_
            refine lv_topi (fun x_155 ex_155 => ?_)
            have tx_155 : x_155.toInt = 96 + (x_154.toInt) := addI (A := 96) (B := x_154.toInt) ex_155 rfl rfl (by  omega) (by  omega)
            refine lv_iload S.1 S.2.1 dX9_steps_120 (lv_at hl 0 rfl) ?_
            refine va_iast S.1 S.2.1 hK.1 hP hD hS 1 0 rfl rfl (in_of (n := 192) (by  omega) (by  omega)) dX9_steps_122 (fun H locs hP hD hS => ?_)
            obtain ⟨f_156, hf_156, rf_156⟩ : ∃ g, (upd f_127 x_155.toNatClampNeg (r_129)) = g ∧ prd cyK 192 g := ⟨_, rfl, cys_O (i := x_155) (v := r_129) (by assumption) (by first | (refine Int.le_antisymm ?_ ?_ <;> omega) | omega) (by first | (refine Int.le_antisymm ?_ ?_ <;> omega) | omega)⟩
            have of_156 : oE stI cy f_156 := oE_upd (by assumption) hf_156 (by first | (refine Int.le_antisymm ?_ ?_ <;> omega) | omega) (fun j hj hs => by unfold stI at hs; omega)
            have hP : va_P D vwCl [(y, .inr (9, [.int m_thrown, .int m_status, .ref y_lane, .ref y_many, .ref y_item, .ref y_city, .ref y_fresh, .int m_isThere, .ref y_tape, .int m_taped, .int m_latest, .int m_length, .int m_cursor, .int m_token, .int m_start, .int m_till, .int m_fault, .int m_faultAt, .int m_seen2_54, .int m_mirrors2_55, .ref y_cost, .ref y_away, .ref y_fee, .ref y_goesTo, .ref y_priceWas, .ref y_isKept, .ref y_kept, .ref y_trace, .int m_traced])), (y_city, .inl (cI, 192, .inl (upd f_127 x_155.toNatClampNeg (r_129))))] H := hP
            have hD : va_D A [(y, .inr (9, [.int m_thrown, .int m_status, .ref y_lane, .ref y_many, .ref y_item, .ref y_city, .ref y_fresh, .int m_isThere, .ref y_tape, .int m_taped, .int m_latest, .int m_length, .int m_cursor, .int m_token, .int m_start, .int m_till, .int m_fault, .int m_faultAt, .int m_seen2_54, .int m_mirrors2_55, .ref y_cost, .ref y_away, .ref y_fee, .ref y_goesTo, .ref y_priceWas, .ref y_isKept, .ref y_kept, .ref y_trace, .int m_traced])), (y_city, .inl (cI, 192, .inl (upd f_127 x_155.toNatClampNeg (r_129))))] := hD
            rw [hf_156] at hP hD
            have ga3 := gaG_o (g := gg) (p := a.toInt) (co := co.toInt) (j := 3) hgo (by first | (refine Int.le_antisymm ?_ ?_ <;> omega) | omega) (by first | (refine Int.le_antisymm ?_ ?_ <;> omega) | omega) (by decide)
            have gn3 := gnG_3 (g := (gaG gg a.toInt co.toInt)) (p := a.toInt) (n := (nxT gg (gg (96 + 4 * a.toInt.toNat)) (co.toInt % 8))) (by first | (refine Int.le_antisymm ?_ ?_ <;> omega) | omega)
            have pl_ : CYd (gnG (gaG gg a.toInt co.toInt) a.toInt (nxT gg (gg (96 + 4 * a.toInt.toNat)) (co.toInt % 8))) f_156 := by first | exact CYd_n0 py_.2 (nxY_n hgy hgb (by rewrite [← hr_]; first | assumption | (have z_ := (by assumption : (_ : Int32).toInt = co.toInt % 8); rewrite [← z_]; assumption) | (have z_ := (by assumption : (_ : Int32).toInt = co.toInt % 8); rewrite [← z_, ← oy_ 0 (by first | (refine Int.le_antisymm ?_ ?_ <;> omega) | omega) (by unfold stI; omega), ← oy_ 1 (by first | (refine Int.le_antisymm ?_ ?_ <;> omega) | omega) (by unfold stI; omega)]; assumption) | omega) (by first | exact Or.inl (by first | (refine Int.le_antisymm ?_ ?_ <;> omega) | omega) | exact Or.inr (by first | (refine Int.le_antisymm ?_ ?_ <;> omega) | omega))) | exact CYd_n py_.2 (by first | (refine Int.le_antisymm ?_ ?_ <;> omega) | omega) (by first | (refine Int.le_antisymm ?_ ?_ <;> omega) | omega) (by assumption) (by first | (refine Int.le_antisymm ?_ ?_ <;> omega) | omega) (nxY_y hgy hgb (by rewrite [← hr_]; first | assumption | (have z_ := (by assumption : (_ : Int32).toInt = co.toInt % 8); rewrite [← z_]; assumption) | (have z_ := (by assumption : (_ : Int32).toInt = co.toInt % 8); rewrite [← z_, ← oy_ 0 (by first | (refine Int.le_antisymm ?_ ?_ <;> omega) | omega) (by unfold stI; omega), ← oy_ 1 (by first | (refine Int.le_antisymm ?_ ?_ <;> omega) | omega) (by unfold stI; omega)]; assumption) | omega) (by first | (refine Int.le_antisymm ?_ ?_ <;> omega) | omega) (by first | (refine Int.le_antisymm ?_ ?_ <;> omega) | omega)) (by have q := nxY_y (r := (r_129).toInt) (k := (gg (96 + 4 * a.toInt.toNat))) (y := co.toInt % 8) hgy hgb (by rewrite [← hr_]; first | assumption | (have z_ := (by assumption : (_ : Int32).toInt = co.toInt % 8); rewrite [← z_]; assumption) | (have z_ := (by assumption : (_ : Int32).toInt = co.toInt % 8); rewrite [← z_, ← oy_ 0 (by first | (refine Int.le_antisymm ?_ ?_ <;> omega) | omega) (by unfold stI; omega), ← oy_ 1 (by first | (refine Int.le_antisymm ?_ ?_ <;> omega) | omega) (by unfold stI; omega)]; assumption) | omega) (by first | (refine Int.le_antisymm ?_ ?_ <;> omega) | omega) (by first | (refine Int.le_antisymm ?_ ?_ <;> omega) | omega); omega)
            refine lv_aload_n S.1 S.2.1 dX9_steps_123 rfl (lv_at hl 3 rfl) ?_
            refine b_get (v := .ref y_city) S iX9 hK hP 0 rfl rfl 5 (by decide) (by decide +kernel) rfl dX9_steps_124 ?_
            refine lv_bipush (v := (96)) S.1 S.2.1 dX9_steps_127 (by decide) ?_
            refine lv_iconst (v := (4)) S.1 S.2.1 dX9_steps_129 (by decide) ?_
            refine lv_iload_n S.1 S.2.1 dX9_steps_130 rfl (lv_at hl 4 rfl) ?_
            refine lv_imul S.1 S.2.1 dX9_steps_131 ?_
            refine lv_topi (fun x_157 ex_157 => ?_)
            have tx_157 : x_157.toInt = 4 * a.toInt := mulI (A := 4) (B := a.toInt) ex_157 rfl rfl (by  omega) (by  omega)
            refine lv_iadd S.1 S.2.1 dX9_steps_132 ?_
            refine lv_topi (fun x_158 ex_158 => ?_)
            have tx_158 : x_158.toInt = 96 + (x_157.toInt) := addI (A := 96) (B := x_157.toInt) ex_158 rfl rfl (by  omega) (by  omega)
            refine lv_iconst (v := (3)) S.1 S.2.1 dX9_steps_133 (by decide) ?_
            refine lv_iadd S.1 S.2.1 dX9_steps_134 ?_
            refine lv_topi (fun x_159 ex_159 => ?_)
            have tx_159 : x_159.toInt = x_158.toInt + (3) := addI (A := x_158.toInt) (B := 3) ex_159 rfl rfl (by  omega) (by  omega)
            refine lv_dup2_11 S.1 S.2.1 dX9_steps_135 rfl rfl ?_
            have hin_160 : vp_in x_159 192 := (in_of (n := 192) (by  omega) (by  omega))
            refine va_iald S.1 S.2.1 hK.1 hP 1 0 rfl rfl hin_160 dX9_steps_136 ?_
            refine lv_topi (fun x_161 ex_161 => ?_)
            refine lv_iconst (v := (1)) S.1 S.2.1 dX9_steps_137 (by decide) ?_
            refine lv_iadd S.1 S.2.1 dX9_steps_138 ?_
            refine lv_topi (fun x_162 ex_162 => ?_)
            refine va_iast S.1 S.2.1 hK.1 hP hD hS 1 0 rfl rfl (in_of (n := 192) (by  omega) (by  omega)) dX9_steps_139 (fun H locs hP hD hS => ?_)
            obtain ⟨f_163, hf_163, rf_163⟩ : ∃ g, (upd f_156 x_159.toNatClampNeg (x_162)) = g ∧ prd cyK 192 g := ⟨_, rfl, cys_O (i := x_159) (v := x_162) (by assumption) (by first | (refine Int.le_antisymm ?_ ?_ <;> omega) | omega) (by first | (refine Int.le_antisymm ?_ ?_ <;> omega) | omega)⟩
            have of_163 : oE stI cy f_163 := oE_upd (by assumption) hf_163 (by first | (refine Int.le_antisymm ?_ ?_ <;> omega) | omega) (fun j hj hs => by unfold stI at hs; omega)
            have hP : va_P D vwCl [(y, .inr (9, [.int m_thrown, .int m_status, .ref y_lane, .ref y_many, .ref y_item, .ref y_city, .ref y_fresh, .int m_isThere, .ref y_tape, .int m_taped, .int m_latest, .int m_length, .int m_cursor, .int m_token, .int m_start, .int m_till, .int m_fault, .int m_faultAt, .int m_seen2_54, .int m_mirrors2_55, .ref y_cost, .ref y_away, .ref y_fee, .ref y_goesTo, .ref y_priceWas, .ref y_isKept, .ref y_kept, .ref y_trace, .int m_traced])), (y_city, .inl (cI, 192, .inl (upd f_156 x_159.toNatClampNeg (x_162))))] H := hP
            have hD : va_D A [(y, .inr (9, [.int m_thrown, .int m_status, .ref y_lane, .ref y_many, .ref y_item, .ref y_city, .ref y_fresh, .int m_isThere, .ref y_tape, .int m_taped, .int m_latest, .int m_length, .int m_cursor, .int m_token, .int m_start, .int m_till, .int m_fault, .int m_faultAt, .int m_seen2_54, .int m_mirrors2_55, .ref y_cost, .ref y_away, .ref y_fee, .ref y_goesTo, .ref y_priceWas, .ref y_isKept, .ref y_kept, .ref y_trace, .int m_traced])), (y_city, .inl (cI, 192, .inl (upd f_156 x_159.toNatClampNeg (x_162))))] := hD
            rw [hf_163] at hP hD
            refine lv_iload S.1 S.2.1 dX9_steps_140 (lv_at hl 1 rfl) ?_
            exact b_iret S.1 S.2.1 X.2.1 X.2.2.1 hP hD hS ⟨m_seen2_54, m_mirrors2_55, f_163, (by first | with_reducible assumption | assumption | omega | decide | (rw [show Int32.toInt 0 = 0 from rfl]; omega)), (by first | with_reducible assumption | (and_intros <;> first | with_reducible assumption | (intros; refine Int.le_antisymm ?_ ?_ <;> omega) | omega) | assumption | decide | (rw [show Int32.toInt 0 = 0 from rfl]; omega)), (by first | with_reducible assumption | assumption | omega | decide | (rw [show Int32.toInt 0 = 0 from rfl]; omega)), py_.1, (CYd_s pl_ (by first | (refine Int.le_antisymm ?_ ?_ <;> omega) | omega) (by first | (refine Int.le_antisymm ?_ ?_ <;> omega) | omega) (by assumption) (by assumption) (by assumption) (by first | (refine Int.le_antisymm ?_ ?_ <;> omega) | omega)), rfl⟩ dX9_steps_142
      · have hP : va_P D vwCl [(y, .inr (9, [.int m_thrown, .int m_status, .ref y_lane, .ref y_many, .ref y_item, .ref y_city, .ref y_fresh, .int m_isThere, .ref y_tape, .int m_taped, .int m_latest, .int m_length, .int m_cursor, .int m_token, .int m_start, .int m_till, .int m_fault, .int m_faultAt, .int m_seen2_54, .int m_mirrors2_55, .ref y_cost, .ref y_away, .ref y_fee, .ref y_goesTo, .ref y_priceWas, .ref y_isKept, .ref y_kept, .ref y_trace, .int m_traced])), (y_city, .inl (cI, 192, .inl f_127))] H := hP
        have hD : va_D A [(y, .inr (9, [.int m_thrown, .int m_status, .ref y_lane, .ref y_many, .ref y_item, .ref y_city, .ref y_fresh, .int m_isThere, .ref y_tape, .int m_taped, .int m_latest, .int m_length, .int m_cursor, .int m_token, .int m_start, .int m_till, .int m_fault, .int m_faultAt, .int m_seen2_54, .int m_mirrors2_55, .ref y_cost, .ref y_away, .ref y_fee, .ref y_goesTo, .ref y_priceWas, .ref y_isKept, .ref y_kept, .ref y_trace, .int m_traced])), (y_city, .inl (cI, 192, .inl f_127))] := hD
        refine lv_istore (lv' := [(5, .int (-1)), (4, .int r_64), (3, .int r_1), (0, .ref y), (1, .int a), (2, .int co)]) S.1 S.2.1 dX9_steps_89 hl (by decide) rfl (fun ls hl => ?_)
        refine lv_iload S.1 S.2.1 dX9_steps_91 (lv_at hl 0 rfl) ?_
        refine lv_if_lt (tgt := 123) S.1 S.2.1 dX9_steps_93 (by decide) (fun c_164 => ?_) (fun c_164 => absurd c_164 (by decide))
        have ga3 := gaG_o (g := gg) (p := a.toInt) (co := co.toInt) (j := 3) hgo (by first | (refine Int.le_antisymm ?_ ?_ <;> omega) | omega) (by first | (refine Int.le_antisymm ?_ ?_ <;> omega) | omega) (by decide)
        have gn3 := gnG_3 (g := (gaG gg a.toInt co.toInt)) (p := a.toInt) (n := (nxT gg (gg (96 + 4 * a.toInt.toNat)) (co.toInt % 8))) (by first | (refine Int.le_antisymm ?_ ?_ <;> omega) | omega)
        have pl_ : CYd (gnG (gaG gg a.toInt co.toInt) a.toInt (nxT gg (gg (96 + 4 * a.toInt.toNat)) (co.toInt % 8))) f_127 := by first | exact CYd_n0 py_.2 (nxY_n hgy hgb (by rewrite [← hr_]; first | assumption | (have z_ := (by assumption : (_ : Int32).toInt = co.toInt % 8); rewrite [← z_]; assumption) | (have z_ := (by assumption : (_ : Int32).toInt = co.toInt % 8); rewrite [← z_, ← oy_ 0 (by first | (refine Int.le_antisymm ?_ ?_ <;> omega) | omega) (by unfold stI; omega), ← oy_ 1 (by first | (refine Int.le_antisymm ?_ ?_ <;> omega) | omega) (by unfold stI; omega)]; assumption) | omega) (by first | exact Or.inl (by first | (refine Int.le_antisymm ?_ ?_ <;> omega) | omega) | exact Or.inr (by first | (refine Int.le_antisymm ?_ ?_ <;> omega) | omega))) | exact CYd_n py_.2 (by first | (refine Int.le_antisymm ?_ ?_ <;> omega) | omega) (by first | (refine Int.le_antisymm ?_ ?_ <;> omega) | omega) (by assumption) (by first | (refine Int.le_antisymm ?_ ?_ <;> omega) | omega) (nxY_y hgy hgb (by rewrite [← hr_]; first | assumption | (have z_ := (by assumption : (_ : Int32).toInt = co.toInt % 8); rewrite [← z_]; assumption) | (have z_ := (by assumption : (_ : Int32).toInt = co.toInt % 8); rewrite [← z_, ← oy_ 0 (by first | (refine Int.le_antisymm ?_ ?_ <;> omega) | omega) (by unfold stI; omega), ← oy_ 1 (by first | (refine Int.le_antisymm ?_ ?_ <;> omega) | omega) (by unfold stI; omega)]; assumption) | omega) (by first | (refine Int.le_antisymm ?_ ?_ <;> omega) | omega) (by first | (refine Int.le_antisymm ?_ ?_ <;> omega) | omega)) (by have q := nxY_y (r := ((-1 : Int32)).toInt) (k := (gg (96 + 4 * a.toInt.toNat))) (y := co.toInt % 8) hgy hgb (by rewrite [← hr_]; first | assumption | (have z_ := (by assumption : (_ : Int32).toInt = co.toInt % 8); rewrite [← z_]; assumption) | (have z_ := (by assumption : (_ : Int32).toInt = co.toInt % 8); rewrite [← z_, ← oy_ 0 (by first | (refine Int.le_antisymm ?_ ?_ <;> omega) | omega) (by unfold stI; omega), ← oy_ 1 (by first | (refine Int.le_antisymm ?_ ?_ <;> omega) | omega) (by unfold stI; omega)]; assumption) | omega) (by first | (refine Int.le_antisymm ?_ ?_ <;> omega) | omega) (by first | (refine Int.le_antisymm ?_ ?_ <;> omega) | omega); omega)
        refine lv_aload_n S.1 S.2.1 dX9_steps_123 rfl (lv_at hl 3 rfl) ?_
        refine b_get (v := .ref y_city) S iX9 hK hP 0 rfl rfl 5 (by decide) (by decide +kernel) rfl dX9_steps_124 ?_
        refine lv_bipush (v := (96)) S.1 S.2.1 dX9_steps_127 (by decide) ?_
        refine lv_iconst (v := (4)) S.1 S.2.1 dX9_steps_129 (by decide) ?_
        refine lv_iload_n S.1 S.2.1 dX9_steps_130 rfl (lv_at hl 4 rfl) ?_
        refine lv_imul S.1 S.2.1 dX9_steps_131 ?_
        refine lv_topi (fun x_165 ex_165 => ?_)
        have tx_165 : x_165.toInt = 4 * a.toInt := mulI (A := 4) (B := a.toInt) ex_165 rfl rfl (by  omega) (by  omega)
        refine lv_iadd S.1 S.2.1 dX9_steps_132 ?_
        refine lv_topi (fun x_166 ex_166 => ?_)
        have tx_166 : x_166.toInt = 96 + (x_165.toInt) := addI (A := 96) (B := x_165.toInt) ex_166 rfl rfl (by  omega) (by  omega)
        refine lv_iconst (v := (3)) S.1 S.2.1 dX9_steps_133 (by decide) ?_
        refine lv_iadd S.1 S.2.1 dX9_steps_134 ?_
        refine lv_topi (fun x_167 ex_167 => ?_)
        have tx_167 : x_167.toInt = x_166.toInt + (3) := addI (A := x_166.toInt) (B := 3) ex_167 rfl rfl (by  omega) (by  omega)
        refine lv_dup2_11 S.1 S.2.1 dX9_steps_135 rfl rfl ?_
        have hin_168 : vp_in x_167 192 := (in_of (n := 192) (by  omega) (by  omega))
        refine va_iald S.1 S.2.1 hK.1 hP 1 0 rfl rfl hin_168 dX9_steps_136 ?_
        refine lv_topi (fun x_169 ex_169 => ?_)
        refine lv_iconst (v := (1)) S.1 S.2.1 dX9_steps_137 (by decide) ?_
        refine lv_iadd S.1 S.2.1 dX9_steps_138 ?_
        refine lv_topi (fun x_170 ex_170 => ?_)
        refine va_iast S.1 S.2.1 hK.1 hP hD hS 1 0 rfl rfl (in_of (n := 192) (by  omega) (by  omega)) dX9_steps_139 (fun H locs hP hD hS => ?_)
        obtain ⟨f_171, hf_171, rf_171⟩ : ∃ g, (upd f_127 x_167.toNatClampNeg (x_170)) = g ∧ prd cyK 192 g := ⟨_, rfl, cys_O (i := x_167) (v := x_170) (by assumption) (by first | (refine Int.le_antisymm ?_ ?_ <;> omega) | omega) (by first | (refine Int.le_antisymm ?_ ?_ <;> omega) | omega)⟩
        have of_171 : oE stI cy f_171 := oE_upd (by assumption) hf_171 (by first | (refine Int.le_antisymm ?_ ?_ <;> omega) | omega) (fun j hj hs => by unfold stI at hs; omega)
        have hP : va_P D vwCl [(y, .inr (9, [.int m_thrown, .int m_status, .ref y_lane, .ref y_many, .ref y_item, .ref y_city, .ref y_fresh, .int m_isThere, .ref y_tape, .int m_taped, .int m_latest, .int m_length, .int m_cursor, .int m_token, .int m_start, .int m_till, .int m_fault, .int m_faultAt, .int m_seen2_54, .int m_mirrors2_55, .ref y_cost, .ref y_away, .ref y_fee, .ref y_goesTo, .ref y_priceWas, .ref y_isKept, .ref y_kept, .ref y_trace, .int m_traced])), (y_city, .inl (cI, 192, .inl (upd f_127 x_167.toNatClampNeg (x_170))))] H := hP
        have hD : va_D A [(y, .inr (9, [.int m_thrown, .int m_status, .ref y_lane, .ref y_many, .ref y_item, .ref y_city, .ref y_fresh, .int m_isThere, .ref y_tape, .int m_taped, .int m_latest, .int m_length, .int m_cursor, .int m_token, .int m_start, .int m_till, .int m_fault, .int m_faultAt, .int m_seen2_54, .int m_mirrors2_55, .ref y_cost, .ref y_away, .ref y_fee, .ref y_goesTo, .ref y_priceWas, .ref y_isKept, .ref y_kept, .ref y_trace, .int m_traced])), (y_city, .inl (cI, 192, .inl (upd f_127 x_167.toNatClampNeg (x_170))))] := hD
        rw [hf_171] at hP hD
        refine lv_iload S.1 S.2.1 dX9_steps_140 (lv_at hl 1 rfl) ?_
        exact b_iret S.1 S.2.1 X.2.1 X.2.2.1 hP hD hS ⟨m_seen2_54, m_mirrors2_55, f_171, (by first | with_reducible assumption | assumption | omega | decide | (rw [show Int32.toInt 0 = 0 from rfl]; omega)), (by first | with_reducible assumption | (and_intros <;> first | with_reducible assumption | (intros; refine Int.le_antisymm ?_ ?_ <;> omega) | omega) | assumption | decide | (rw [show Int32.toInt 0 = 0 from rfl]; omega)), (by first | with_reducible assumption | assumption | omega | decide | (rw [show Int32.toInt 0 = 0 from rfl]; omega)), py_.1, (CYd_s pl_ (by first | (refine Int.le_antisymm ?_ ?_ <;> omega) | omega) (by first | (refine Int.le_antisymm ?_ ?_ <;> omega) | omega) (by assumption) (by assumption) (by assumption) (by first | (refine Int.le_antisymm ?_ ?_ <;> omega) | omega)), rfl⟩ dX9_steps_142
