set_option maxRecDepth 20000 in
theorem ggX3_isRowOfCells_X3_cellOf : GoodIn wsX3_isRowOfCells wsX3_cellOf := goodIn_r _ [19] (by first | exact rfl | decide +kernel) (by decide +kernel)
set_option maxRecDepth 20000 in
theorem gX3_isRowOfCells_X3_cellOf : GoodIn wsX3_isRowOfCells (va_wsS RX3 88 yX3_cellOf wsX3_cellOf) := goodIn_app (goodIn_r _ [16, 17, 18] (by first | exact rfl | decide +kernel) (by decide +kernel)) ggX3_isRowOfCells_X3_cellOf
set_option maxRecDepth 20000 in
theorem ggX3_isRowOfCells_X5_length : GoodIn wsX3_isRowOfCells wsX5_length := goodIn_r _ [13, 14, 15, 24, 25, 26, 27, 28, 29] (by first | exact rfl | decide +kernel) (by decide +kernel)
set_option maxRecDepth 20000 in
theorem gX3_isRowOfCells_X5_length : GoodIn wsX3_isRowOfCells (wsV RX3 71 RX5 yX5_length wsX5_length) := goodIn_app (goodIn_r _ [9, 10, 11, 12] (by first | exact rfl | decide +kernel) (by decide +kernel)) ggX3_isRowOfCells_X5_length
set_option maxRecDepth 20000 in
theorem ggX3_passStop_X3_wrong : GoodIn wsX3_passStop wsX3_wrong := goodIn_r _ [25, 26, 1, 27, 28, 29, 30, 31, 32, 33, 34, 35, 36, 37, 38] (by first | exact rfl | decide +kernel) (by decide +kernel)
set_option maxRecDepth 20000 in
theorem gX3_passStop_X3_wrong : GoodIn wsX3_passStop (wsV RX3 42 RX3 yX3_wrong wsX3_wrong) := goodIn_app (goodIn_r _ [21, 22, 23, 24] (by first | exact rfl | decide +kernel) (by decide +kernel)) ggX3_passStop_X3_wrong
set_option maxRecDepth 20000 in
theorem ggX3_passStop_X5_advance : GoodIn wsX3_passStop wsX5_advance := goodIn_r _ [7, 8, 9, 10, 11, 12, 13, 14, 6, 15, 16, 17, 18, 19, 20, 33, 34, 35, 36, 37, 38] (by first | exact rfl | decide +kernel) (by decide +kernel)
set_option maxRecDepth 20000 in
theorem gX3_passStop_X5_advance : GoodIn wsX3_passStop (wsV RX3 65 RX5 yX5_advance wsX5_advance) := goodIn_app (goodIn_r _ [3, 4, 5, 6] (by first | exact rfl | decide +kernel) (by decide +kernel)) ggX3_passStop_X5_advance
set_option maxRecDepth 20000 in
theorem ggX3_readNumber_X3_wrong : GoodIn wsX3_readNumber wsX3_wrong := goodIn_r _ [8, 9, 1, 10, 11, 30, 31, 32, 33, 34, 35, 36, 37, 38, 39] (by first | exact rfl | decide +kernel) (by decide +kernel)
set_option maxRecDepth 20000 in
theorem gX3_readNumber_X3_wrong : GoodIn wsX3_readNumber (wsV RX3 42 RX3 yX3_wrong wsX3_wrong) := goodIn_app (goodIn_r _ [4, 5, 6, 7] (by first | exact rfl | decide +kernel) (by decide +kernel)) ggX3_readNumber_X3_wrong
set_option maxRecDepth 20000 in
theorem ggX3_readNumber_X5_advance : GoodIn wsX3_readNumber wsX5_advance := goodIn_r _ [16, 17, 18, 19, 20, 21, 22, 23, 15, 24, 25, 26, 27, 28, 29, 34, 35, 36, 37, 38, 39] (by first | exact rfl | decide +kernel) (by decide +kernel)
set_option maxRecDepth 20000 in
theorem gX3_readNumber_X5_advance : GoodIn wsX3_readNumber (wsV RX3 65 RX5 yX5_advance wsX5_advance) := goodIn_app (goodIn_r _ [12, 13, 14, 15] (by first | exact rfl | decide +kernel) (by decide +kernel)) ggX3_readNumber_X5_advance
set_option maxRecDepth 20000 in
theorem ggX3_readOpenCell_X1_isOpen : GoodIn wsX3_readOpenCell wsX1_isOpen := goodIn_r _ [41, 42, 43, 44, 45, 40, 46, 47, 48, 53, 54, 55, 56, 57, 58, 59, 60, 61, 62, 63, 64] (by first | exact rfl | decide +kernel) (by decide +kernel)
set_option maxRecDepth 20000 in
theorem gX3_readOpenCell_X1_isOpen : GoodIn wsX3_readOpenCell (wsV RX3 141 RX1 yX1_isOpen wsX1_isOpen) := goodIn_app (goodIn_r _ [37, 38, 39, 40] (by first | exact rfl | decide +kernel) (by decide +kernel)) ggX3_readOpenCell_X1_isOpen
set_option maxRecDepth 20000 in
theorem ggX3_readOpenCell_X3_readNumber : GoodIn wsX3_readOpenCell wsX3_readNumber := goodIn_r _ [11, 3, 4, 5, 12, 13, 14, 10, 15, 16, 17, 18, 19, 20, 21, 22, 23, 24, 25, 26, 27, 28, 29, 30, 31, 32, 33, 34, 35, 36, 49, 50, 51, 52, 65, 66, 67, 68, 69, 70] (by first | exact rfl | decide +kernel) (by decide +kernel)
set_option maxRecDepth 20000 in
theorem gX3_readOpenCell_X3_readNumber : GoodIn wsX3_readOpenCell (wsV RX3 104 RX3 yX3_readNumber wsX3_readNumber) := goodIn_app (goodIn_r _ [7, 8, 9, 10] (by first | exact rfl | decide +kernel) (by decide +kernel)) ggX3_readOpenCell_X3_readNumber
set_option maxRecDepth 20000 in
theorem ggX3_readOpenCell_X3_wrong : GoodIn wsX3_readOpenCell wsX3_wrong := goodIn_r _ [15, 16, 3, 17, 18, 49, 50, 51, 52, 65, 66, 67, 68, 69, 70] (by first | exact rfl | decide +kernel) (by decide +kernel)
set_option maxRecDepth 20000 in
theorem gX3_readOpenCell_X3_wrong : GoodIn wsX3_readOpenCell (wsV RX3 42 RX3 yX3_wrong wsX3_wrong) := goodIn_app (goodIn_r _ [12, 13, 14, 10] (by first | exact rfl | decide +kernel) (by decide +kernel)) ggX3_readOpenCell_X3_wrong
set_option maxRecDepth 20000 in
theorem gdX3_cellOf_0 : decode cX3_cellOf 0 = .ok (.iload_n 0, 1) ∧ decode cX3_cellOf 1 = .ok (.bipush 97, 2) ∧ decode cX3_cellOf 3 = .ok (.if_icmp .lt 16, 3) ∧ decode cX3_cellOf 6 = .ok (.iload_n 0, 1) ∧ decode cX3_cellOf 7 = .ok (.bipush 103, 2) ∧ decode cX3_cellOf 9 = .ok (.if_icmp .ge 10, 3) ∧ decode cX3_cellOf 12 = .ok (.iconst 3, 1) ∧ decode cX3_cellOf 13 = .ok (.iload_n 0, 1) := by decide +kernel
theorem dX3_cellOf_0 : decode cX3_cellOf 0 = .ok (.iload_n 0, 1) := gdX3_cellOf_0.1
theorem dX3_cellOf_1 : decode cX3_cellOf 1 = .ok (.bipush 97, 2) := gdX3_cellOf_0.2.1
theorem dX3_cellOf_3 : decode cX3_cellOf 3 = .ok (.if_icmp .lt 16, 3) := gdX3_cellOf_0.2.2.1
theorem dX3_cellOf_6 : decode cX3_cellOf 6 = .ok (.iload_n 0, 1) := gdX3_cellOf_0.2.2.2.1
theorem dX3_cellOf_7 : decode cX3_cellOf 7 = .ok (.bipush 103, 2) := gdX3_cellOf_0.2.2.2.2.1
theorem dX3_cellOf_9 : decode cX3_cellOf 9 = .ok (.if_icmp .ge 10, 3) := gdX3_cellOf_0.2.2.2.2.2.1
theorem dX3_cellOf_12 : decode cX3_cellOf 12 = .ok (.iconst 3, 1) := gdX3_cellOf_0.2.2.2.2.2.2.1
theorem dX3_cellOf_13 : decode cX3_cellOf 13 = .ok (.iload_n 0, 1) := gdX3_cellOf_0.2.2.2.2.2.2.2
set_option maxRecDepth 20000 in
theorem gdX3_cellOf_14 : decode cX3_cellOf 14 = .ok (.iadd, 1) ∧ decode cX3_cellOf 15 = .ok (.bipush 97, 2) ∧ decode cX3_cellOf 17 = .ok (.isub, 1) ∧ decode cX3_cellOf 18 = .ok (.ireturn, 1) ∧ decode cX3_cellOf 19 = .ok (.iload_n 0, 1) ∧ decode cX3_cellOf 20 = .ok (.lookupswitch 42 #[(109, 40), (111, 36), (119, 38)], 36) ∧ decode cX3_cellOf 56 = .ok (.iconst 0, 1) ∧ decode cX3_cellOf 57 = .ok (.ireturn, 1) := by decide +kernel
theorem dX3_cellOf_14 : decode cX3_cellOf 14 = .ok (.iadd, 1) := gdX3_cellOf_14.1
theorem dX3_cellOf_15 : decode cX3_cellOf 15 = .ok (.bipush 97, 2) := gdX3_cellOf_14.2.1
theorem dX3_cellOf_17 : decode cX3_cellOf 17 = .ok (.isub, 1) := gdX3_cellOf_14.2.2.1
theorem dX3_cellOf_18 : decode cX3_cellOf 18 = .ok (.ireturn, 1) := gdX3_cellOf_14.2.2.2.1
theorem dX3_cellOf_19 : decode cX3_cellOf 19 = .ok (.iload_n 0, 1) := gdX3_cellOf_14.2.2.2.2.1
theorem dX3_cellOf_20 : decode cX3_cellOf 20 = .ok (.lookupswitch 42 #[(109, 40), (111, 36), (119, 38)], 36) := gdX3_cellOf_14.2.2.2.2.2.1
theorem dX3_cellOf_56 : decode cX3_cellOf 56 = .ok (.iconst 0, 1) := gdX3_cellOf_14.2.2.2.2.2.2.1
theorem dX3_cellOf_57 : decode cX3_cellOf 57 = .ok (.ireturn, 1) := gdX3_cellOf_14.2.2.2.2.2.2.2
set_option maxRecDepth 20000 in
theorem gdX3_cellOf_58 : decode cX3_cellOf 58 = .ok (.iconst 1, 1) ∧ decode cX3_cellOf 59 = .ok (.ireturn, 1) ∧ decode cX3_cellOf 60 = .ok (.iconst 2, 1) ∧ decode cX3_cellOf 61 = .ok (.ireturn, 1) ∧ decode cX3_cellOf 62 = .ok (.iconst (-1), 1) ∧ decode cX3_cellOf 63 = .ok (.ireturn, 1) := by decide +kernel
theorem dX3_cellOf_58 : decode cX3_cellOf 58 = .ok (.iconst 1, 1) := gdX3_cellOf_58.1
theorem dX3_cellOf_59 : decode cX3_cellOf 59 = .ok (.ireturn, 1) := gdX3_cellOf_58.2.1
theorem dX3_cellOf_60 : decode cX3_cellOf 60 = .ok (.iconst 2, 1) := gdX3_cellOf_58.2.2.1
theorem dX3_cellOf_61 : decode cX3_cellOf 61 = .ok (.ireturn, 1) := gdX3_cellOf_58.2.2.2.1
theorem dX3_cellOf_62 : decode cX3_cellOf 62 = .ok (.iconst (-1), 1) := gdX3_cellOf_58.2.2.2.2.1
theorem dX3_cellOf_63 : decode cX3_cellOf 63 = .ok (.ireturn, 1) := gdX3_cellOf_58.2.2.2.2.2
set_option maxRecDepth 20000 in
theorem gdX3_isRowOfCells_0 : decode cX3_isRowOfCells 0 = .ok (.aload_n 0, 1) ∧ decode cX3_isRowOfCells 1 = .ok (.getfield 18, 3) ∧ decode cX3_isRowOfCells 4 = .ok (.getfield 56, 3) ∧ decode cX3_isRowOfCells 7 = .ok (.iconst 1, 1) ∧ decode cX3_isRowOfCells 8 = .ok (.if_icmp .ne 15, 3) ∧ decode cX3_isRowOfCells 11 = .ok (.aload_n 0, 1) ∧ decode cX3_isRowOfCells 12 = .ok (.getfield 18, 3) ∧ decode cX3_isRowOfCells 15 = .ok (.invokevirtual 71, 3) := by decide +kernel
theorem dX3_isRowOfCells_0 : decode cX3_isRowOfCells 0 = .ok (.aload_n 0, 1) := gdX3_isRowOfCells_0.1
theorem dX3_isRowOfCells_1 : decode cX3_isRowOfCells 1 = .ok (.getfield 18, 3) := gdX3_isRowOfCells_0.2.1
theorem dX3_isRowOfCells_4 : decode cX3_isRowOfCells 4 = .ok (.getfield 56, 3) := gdX3_isRowOfCells_0.2.2.1
theorem dX3_isRowOfCells_7 : decode cX3_isRowOfCells 7 = .ok (.iconst 1, 1) := gdX3_isRowOfCells_0.2.2.2.1
theorem dX3_isRowOfCells_8 : decode cX3_isRowOfCells 8 = .ok (.if_icmp .ne 15, 3) := gdX3_isRowOfCells_0.2.2.2.2.1
theorem dX3_isRowOfCells_11 : decode cX3_isRowOfCells 11 = .ok (.aload_n 0, 1) := gdX3_isRowOfCells_0.2.2.2.2.2.1
theorem dX3_isRowOfCells_12 : decode cX3_isRowOfCells 12 = .ok (.getfield 18, 3) := gdX3_isRowOfCells_0.2.2.2.2.2.2.1
theorem dX3_isRowOfCells_15 : decode cX3_isRowOfCells 15 = .ok (.invokevirtual 71, 3) := gdX3_isRowOfCells_0.2.2.2.2.2.2.2
set_option maxRecDepth 20000 in
theorem gdX3_isRowOfCells_18 : decode cX3_isRowOfCells 18 = .ok (.bipush 10, 2) ∧ decode cX3_isRowOfCells 20 = .ok (.if_icmp .le 5, 3) ∧ decode cX3_isRowOfCells 23 = .ok (.iconst 0, 1) ∧ decode cX3_isRowOfCells 24 = .ok (.ireturn, 1) ∧ decode cX3_isRowOfCells 25 = .ok (.aload_n 0, 1) ∧ decode cX3_isRowOfCells 26 = .ok (.getfield 22, 3) ∧ decode cX3_isRowOfCells 29 = .ok (.getfield 78, 3) ∧ decode cX3_isRowOfCells 32 = .ok (.ifCond .le 22, 3) := by decide +kernel
theorem dX3_isRowOfCells_18 : decode cX3_isRowOfCells 18 = .ok (.bipush 10, 2) := gdX3_isRowOfCells_18.1
theorem dX3_isRowOfCells_20 : decode cX3_isRowOfCells 20 = .ok (.if_icmp .le 5, 3) := gdX3_isRowOfCells_18.2.1
theorem dX3_isRowOfCells_23 : decode cX3_isRowOfCells 23 = .ok (.iconst 0, 1) := gdX3_isRowOfCells_18.2.2.1
theorem dX3_isRowOfCells_24 : decode cX3_isRowOfCells 24 = .ok (.ireturn, 1) := gdX3_isRowOfCells_18.2.2.2.1
theorem dX3_isRowOfCells_25 : decode cX3_isRowOfCells 25 = .ok (.aload_n 0, 1) := gdX3_isRowOfCells_18.2.2.2.2.1
theorem dX3_isRowOfCells_26 : decode cX3_isRowOfCells 26 = .ok (.getfield 22, 3) := gdX3_isRowOfCells_18.2.2.2.2.2.1
theorem dX3_isRowOfCells_29 : decode cX3_isRowOfCells 29 = .ok (.getfield 78, 3) := gdX3_isRowOfCells_18.2.2.2.2.2.2.1
theorem dX3_isRowOfCells_32 : decode cX3_isRowOfCells 32 = .ok (.ifCond .le 22, 3) := gdX3_isRowOfCells_18.2.2.2.2.2.2.2
set_option maxRecDepth 20000 in
theorem gdX3_isRowOfCells_35 : decode cX3_isRowOfCells 35 = .ok (.aload_n 0, 1) ∧ decode cX3_isRowOfCells 36 = .ok (.getfield 18, 3) ∧ decode cX3_isRowOfCells 39 = .ok (.invokevirtual 71, 3) ∧ decode cX3_isRowOfCells 42 = .ok (.aload_n 0, 1) ∧ decode cX3_isRowOfCells 43 = .ok (.getfield 22, 3) ∧ decode cX3_isRowOfCells 46 = .ok (.getfield 75, 3) ∧ decode cX3_isRowOfCells 49 = .ok (.if_icmp .eq 5, 3) ∧ decode cX3_isRowOfCells 52 = .ok (.iconst 0, 1) := by decide +kernel
theorem dX3_isRowOfCells_35 : decode cX3_isRowOfCells 35 = .ok (.aload_n 0, 1) := gdX3_isRowOfCells_35.1
theorem dX3_isRowOfCells_36 : decode cX3_isRowOfCells 36 = .ok (.getfield 18, 3) := gdX3_isRowOfCells_35.2.1
theorem dX3_isRowOfCells_39 : decode cX3_isRowOfCells 39 = .ok (.invokevirtual 71, 3) := gdX3_isRowOfCells_35.2.2.1
theorem dX3_isRowOfCells_42 : decode cX3_isRowOfCells 42 = .ok (.aload_n 0, 1) := gdX3_isRowOfCells_35.2.2.2.1
theorem dX3_isRowOfCells_43 : decode cX3_isRowOfCells 43 = .ok (.getfield 22, 3) := gdX3_isRowOfCells_35.2.2.2.2.1
theorem dX3_isRowOfCells_46 : decode cX3_isRowOfCells 46 = .ok (.getfield 75, 3) := gdX3_isRowOfCells_35.2.2.2.2.2.1
theorem dX3_isRowOfCells_49 : decode cX3_isRowOfCells 49 = .ok (.if_icmp .eq 5, 3) := gdX3_isRowOfCells_35.2.2.2.2.2.2.1
theorem dX3_isRowOfCells_52 : decode cX3_isRowOfCells 52 = .ok (.iconst 0, 1) := gdX3_isRowOfCells_35.2.2.2.2.2.2.2
set_option maxRecDepth 20000 in
theorem gdX3_isRowOfCells_53 : decode cX3_isRowOfCells 53 = .ok (.ireturn, 1) ∧ decode cX3_isRowOfCells 54 = .ok (.aload_n 0, 1) ∧ decode cX3_isRowOfCells 55 = .ok (.getfield 18, 3) ∧ decode cX3_isRowOfCells 58 = .ok (.getfield 59, 3) ∧ decode cX3_isRowOfCells 61 = .ok (.istore_n 1, 1) ∧ decode cX3_isRowOfCells 62 = .ok (.iload_n 1, 1) ∧ decode cX3_isRowOfCells 63 = .ok (.aload_n 0, 1) ∧ decode cX3_isRowOfCells 64 = .ok (.getfield 18, 3) := by decide +kernel
theorem dX3_isRowOfCells_53 : decode cX3_isRowOfCells 53 = .ok (.ireturn, 1) := gdX3_isRowOfCells_53.1
theorem dX3_isRowOfCells_54 : decode cX3_isRowOfCells 54 = .ok (.aload_n 0, 1) := gdX3_isRowOfCells_53.2.1
theorem dX3_isRowOfCells_55 : decode cX3_isRowOfCells 55 = .ok (.getfield 18, 3) := gdX3_isRowOfCells_53.2.2.1
theorem dX3_isRowOfCells_58 : decode cX3_isRowOfCells 58 = .ok (.getfield 59, 3) := gdX3_isRowOfCells_53.2.2.2.1
theorem dX3_isRowOfCells_61 : decode cX3_isRowOfCells 61 = .ok (.istore_n 1, 1) := gdX3_isRowOfCells_53.2.2.2.2.1
theorem dX3_isRowOfCells_62 : decode cX3_isRowOfCells 62 = .ok (.iload_n 1, 1) := gdX3_isRowOfCells_53.2.2.2.2.2.1
theorem dX3_isRowOfCells_63 : decode cX3_isRowOfCells 63 = .ok (.aload_n 0, 1) := gdX3_isRowOfCells_53.2.2.2.2.2.2.1
theorem dX3_isRowOfCells_64 : decode cX3_isRowOfCells 64 = .ok (.getfield 18, 3) := gdX3_isRowOfCells_53.2.2.2.2.2.2.2
set_option maxRecDepth 20000 in
theorem gdX3_isRowOfCells_67 : decode cX3_isRowOfCells 67 = .ok (.getfield 96, 3) ∧ decode cX3_isRowOfCells 70 = .ok (.if_icmp .ge 27, 3) ∧ decode cX3_isRowOfCells 73 = .ok (.aload_n 0, 1) ∧ decode cX3_isRowOfCells 74 = .ok (.getfield 18, 3) ∧ decode cX3_isRowOfCells 77 = .ok (.getfield 85, 3) ∧ decode cX3_isRowOfCells 80 = .ok (.iload_n 1, 1) ∧ decode cX3_isRowOfCells 81 = .ok (.iaload, 1) ∧ decode cX3_isRowOfCells 82 = .ok (.invokestatic 88, 3) := by decide +kernel
theorem dX3_isRowOfCells_67 : decode cX3_isRowOfCells 67 = .ok (.getfield 96, 3) := gdX3_isRowOfCells_67.1
theorem dX3_isRowOfCells_70 : decode cX3_isRowOfCells 70 = .ok (.if_icmp .ge 27, 3) := gdX3_isRowOfCells_67.2.1
theorem dX3_isRowOfCells_73 : decode cX3_isRowOfCells 73 = .ok (.aload_n 0, 1) := gdX3_isRowOfCells_67.2.2.1
theorem dX3_isRowOfCells_74 : decode cX3_isRowOfCells 74 = .ok (.getfield 18, 3) := gdX3_isRowOfCells_67.2.2.2.1
theorem dX3_isRowOfCells_77 : decode cX3_isRowOfCells 77 = .ok (.getfield 85, 3) := gdX3_isRowOfCells_67.2.2.2.2.1
theorem dX3_isRowOfCells_80 : decode cX3_isRowOfCells 80 = .ok (.iload_n 1, 1) := gdX3_isRowOfCells_67.2.2.2.2.2.1
theorem dX3_isRowOfCells_81 : decode cX3_isRowOfCells 81 = .ok (.iaload, 1) := gdX3_isRowOfCells_67.2.2.2.2.2.2.1
theorem dX3_isRowOfCells_82 : decode cX3_isRowOfCells 82 = .ok (.invokestatic 88, 3) := gdX3_isRowOfCells_67.2.2.2.2.2.2.2
set_option maxRecDepth 20000 in
theorem gdX3_isRowOfCells_85 : decode cX3_isRowOfCells 85 = .ok (.iconst (-1), 1) ∧ decode cX3_isRowOfCells 86 = .ok (.if_icmp .ne 5, 3) ∧ decode cX3_isRowOfCells 89 = .ok (.iconst 0, 1) ∧ decode cX3_isRowOfCells 90 = .ok (.ireturn, 1) ∧ decode cX3_isRowOfCells 91 = .ok (.iinc 1 1, 3) ∧ decode cX3_isRowOfCells 94 = .ok (.goto (-32), 3) ∧ decode cX3_isRowOfCells 97 = .ok (.iconst 1, 1) ∧ decode cX3_isRowOfCells 98 = .ok (.ireturn, 1) := by decide +kernel
theorem dX3_isRowOfCells_85 : decode cX3_isRowOfCells 85 = .ok (.iconst (-1), 1) := gdX3_isRowOfCells_85.1
theorem dX3_isRowOfCells_86 : decode cX3_isRowOfCells 86 = .ok (.if_icmp .ne 5, 3) := gdX3_isRowOfCells_85.2.1
theorem dX3_isRowOfCells_89 : decode cX3_isRowOfCells 89 = .ok (.iconst 0, 1) := gdX3_isRowOfCells_85.2.2.1
theorem dX3_isRowOfCells_90 : decode cX3_isRowOfCells 90 = .ok (.ireturn, 1) := gdX3_isRowOfCells_85.2.2.2.1
theorem dX3_isRowOfCells_91 : decode cX3_isRowOfCells 91 = .ok (.iinc 1 1, 3) := gdX3_isRowOfCells_85.2.2.2.2.1
theorem dX3_isRowOfCells_94 : decode cX3_isRowOfCells 94 = .ok (.goto (-32), 3) := gdX3_isRowOfCells_85.2.2.2.2.2.1
theorem dX3_isRowOfCells_97 : decode cX3_isRowOfCells 97 = .ok (.iconst 1, 1) := gdX3_isRowOfCells_85.2.2.2.2.2.2.1
theorem dX3_isRowOfCells_98 : decode cX3_isRowOfCells 98 = .ok (.ireturn, 1) := gdX3_isRowOfCells_85.2.2.2.2.2.2.2
set_option maxRecDepth 20000 in
theorem gdX3_passStop_0 : decode cX3_passStop 0 = .ok (.iload_n 1, 1) ∧ decode cX3_passStop 1 = .ok (.ifCond .eq 10, 3) ∧ decode cX3_passStop 4 = .ok (.aload_n 0, 1) ∧ decode cX3_passStop 5 = .ok (.getfield 18, 3) ∧ decode cX3_passStop 8 = .ok (.invokevirtual 65, 3) ∧ decode cX3_passStop 11 = .ok (.aload_n 0, 1) ∧ decode cX3_passStop 12 = .ok (.getfield 18, 3) ∧ decode cX3_passStop 15 = .ok (.getfield 56, 3) := by decide +kernel
theorem dX3_passStop_0 : decode cX3_passStop 0 = .ok (.iload_n 1, 1) := gdX3_passStop_0.1
theorem dX3_passStop_1 : decode cX3_passStop 1 = .ok (.ifCond .eq 10, 3) := gdX3_passStop_0.2.1
theorem dX3_passStop_4 : decode cX3_passStop 4 = .ok (.aload_n 0, 1) := gdX3_passStop_0.2.2.1
theorem dX3_passStop_5 : decode cX3_passStop 5 = .ok (.getfield 18, 3) := gdX3_passStop_0.2.2.2.1
theorem dX3_passStop_8 : decode cX3_passStop 8 = .ok (.invokevirtual 65, 3) := gdX3_passStop_0.2.2.2.2.1
theorem dX3_passStop_11 : decode cX3_passStop 11 = .ok (.aload_n 0, 1) := gdX3_passStop_0.2.2.2.2.2.1
theorem dX3_passStop_12 : decode cX3_passStop 12 = .ok (.getfield 18, 3) := gdX3_passStop_0.2.2.2.2.2.2.1
theorem dX3_passStop_15 : decode cX3_passStop 15 = .ok (.getfield 56, 3) := gdX3_passStop_0.2.2.2.2.2.2.2
set_option maxRecDepth 20000 in
theorem gdX3_passStop_18 : decode cX3_passStop 18 = .ok (.iconst 3, 1) ∧ decode cX3_passStop 19 = .ok (.if_icmp .eq 9, 3) ∧ decode cX3_passStop 22 = .ok (.aload_n 0, 1) ∧ decode cX3_passStop 23 = .ok (.iconst 1, 1) ∧ decode cX3_passStop 24 = .ok (.invokevirtual 42, 3) ∧ decode cX3_passStop 27 = .ok (.ireturn, 1) ∧ decode cX3_passStop 28 = .ok (.aload_n 0, 1) ∧ decode cX3_passStop 29 = .ok (.getfield 18, 3) := by decide +kernel
theorem dX3_passStop_18 : decode cX3_passStop 18 = .ok (.iconst 3, 1) := gdX3_passStop_18.1
theorem dX3_passStop_19 : decode cX3_passStop 19 = .ok (.if_icmp .eq 9, 3) := gdX3_passStop_18.2.1
theorem dX3_passStop_22 : decode cX3_passStop 22 = .ok (.aload_n 0, 1) := gdX3_passStop_18.2.2.1
theorem dX3_passStop_23 : decode cX3_passStop 23 = .ok (.iconst 1, 1) := gdX3_passStop_18.2.2.2.1
theorem dX3_passStop_24 : decode cX3_passStop 24 = .ok (.invokevirtual 42, 3) := gdX3_passStop_18.2.2.2.2.1
theorem dX3_passStop_27 : decode cX3_passStop 27 = .ok (.ireturn, 1) := gdX3_passStop_18.2.2.2.2.2.1
theorem dX3_passStop_28 : decode cX3_passStop 28 = .ok (.aload_n 0, 1) := gdX3_passStop_18.2.2.2.2.2.2.1
theorem dX3_passStop_29 : decode cX3_passStop 29 = .ok (.getfield 18, 3) := gdX3_passStop_18.2.2.2.2.2.2.2
set_option maxRecDepth 20000 in
theorem gdX3_passStop_32 : decode cX3_passStop 32 = .ok (.invokevirtual 65, 3) ∧ decode cX3_passStop 35 = .ok (.iconst 1, 1) ∧ decode cX3_passStop 36 = .ok (.ireturn, 1) := by decide +kernel
theorem dX3_passStop_32 : decode cX3_passStop 32 = .ok (.invokevirtual 65, 3) := gdX3_passStop_32.1
theorem dX3_passStop_35 : decode cX3_passStop 35 = .ok (.iconst 1, 1) := gdX3_passStop_32.2.1
theorem dX3_passStop_36 : decode cX3_passStop 36 = .ok (.ireturn, 1) := gdX3_passStop_32.2.2
set_option maxRecDepth 20000 in
theorem gdX3_readNumber_0 : decode cX3_readNumber 0 = .ok (.aload_n 0, 1) ∧ decode cX3_readNumber 1 = .ok (.getfield 18, 3) ∧ decode cX3_readNumber 4 = .ok (.getfield 56, 3) ∧ decode cX3_readNumber 7 = .ok (.iconst 2, 1) ∧ decode cX3_readNumber 8 = .ok (.if_icmp .eq 11, 3) ∧ decode cX3_readNumber 11 = .ok (.aload_n 0, 1) ∧ decode cX3_readNumber 12 = .ok (.iconst 1, 1) ∧ decode cX3_readNumber 13 = .ok (.invokevirtual 42, 3) := by decide +kernel
theorem dX3_readNumber_0 : decode cX3_readNumber 0 = .ok (.aload_n 0, 1) := gdX3_readNumber_0.1
theorem dX3_readNumber_1 : decode cX3_readNumber 1 = .ok (.getfield 18, 3) := gdX3_readNumber_0.2.1
theorem dX3_readNumber_4 : decode cX3_readNumber 4 = .ok (.getfield 56, 3) := gdX3_readNumber_0.2.2.1
theorem dX3_readNumber_7 : decode cX3_readNumber 7 = .ok (.iconst 2, 1) := gdX3_readNumber_0.2.2.2.1
theorem dX3_readNumber_8 : decode cX3_readNumber 8 = .ok (.if_icmp .eq 11, 3) := gdX3_readNumber_0.2.2.2.2.1
theorem dX3_readNumber_11 : decode cX3_readNumber 11 = .ok (.aload_n 0, 1) := gdX3_readNumber_0.2.2.2.2.2.1
theorem dX3_readNumber_12 : decode cX3_readNumber 12 = .ok (.iconst 1, 1) := gdX3_readNumber_0.2.2.2.2.2.2.1
theorem dX3_readNumber_13 : decode cX3_readNumber 13 = .ok (.invokevirtual 42, 3) := gdX3_readNumber_0.2.2.2.2.2.2.2
set_option maxRecDepth 20000 in
theorem gdX3_readNumber_16 : decode cX3_readNumber 16 = .ok (.pop, 1) ∧ decode cX3_readNumber 17 = .ok (.iconst (-1), 1) ∧ decode cX3_readNumber 18 = .ok (.ireturn, 1) ∧ decode cX3_readNumber 19 = .ok (.aload_n 0, 1) ∧ decode cX3_readNumber 20 = .ok (.getfield 18, 3) ∧ decode cX3_readNumber 23 = .ok (.getfield 114, 3) ∧ decode cX3_readNumber 26 = .ok (.istore_n 2, 1) ∧ decode cX3_readNumber 27 = .ok (.iload_n 2, 1) := by decide +kernel
theorem dX3_readNumber_16 : decode cX3_readNumber 16 = .ok (.pop, 1) := gdX3_readNumber_16.1
theorem dX3_readNumber_17 : decode cX3_readNumber 17 = .ok (.iconst (-1), 1) := gdX3_readNumber_16.2.1
theorem dX3_readNumber_18 : decode cX3_readNumber 18 = .ok (.ireturn, 1) := gdX3_readNumber_16.2.2.1
theorem dX3_readNumber_19 : decode cX3_readNumber 19 = .ok (.aload_n 0, 1) := gdX3_readNumber_16.2.2.2.1
theorem dX3_readNumber_20 : decode cX3_readNumber 20 = .ok (.getfield 18, 3) := gdX3_readNumber_16.2.2.2.2.1
theorem dX3_readNumber_23 : decode cX3_readNumber 23 = .ok (.getfield 114, 3) := gdX3_readNumber_16.2.2.2.2.2.1
theorem dX3_readNumber_26 : decode cX3_readNumber 26 = .ok (.istore_n 2, 1) := gdX3_readNumber_16.2.2.2.2.2.2.1
theorem dX3_readNumber_27 : decode cX3_readNumber 27 = .ok (.iload_n 2, 1) := gdX3_readNumber_16.2.2.2.2.2.2.2
set_option maxRecDepth 20000 in
theorem gdX3_readNumber_28 : decode cX3_readNumber 28 = .ok (.iload_n 1, 1) ∧ decode cX3_readNumber 29 = .ok (.if_icmp .lt 11, 3) ∧ decode cX3_readNumber 32 = .ok (.aload_n 0, 1) ∧ decode cX3_readNumber 33 = .ok (.iconst 2, 1) ∧ decode cX3_readNumber 34 = .ok (.invokevirtual 42, 3) ∧ decode cX3_readNumber 37 = .ok (.pop, 1) ∧ decode cX3_readNumber 38 = .ok (.iconst (-1), 1) ∧ decode cX3_readNumber 39 = .ok (.ireturn, 1) := by decide +kernel
theorem dX3_readNumber_28 : decode cX3_readNumber 28 = .ok (.iload_n 1, 1) := gdX3_readNumber_28.1
theorem dX3_readNumber_29 : decode cX3_readNumber 29 = .ok (.if_icmp .lt 11, 3) := gdX3_readNumber_28.2.1
theorem dX3_readNumber_32 : decode cX3_readNumber 32 = .ok (.aload_n 0, 1) := gdX3_readNumber_28.2.2.1
theorem dX3_readNumber_33 : decode cX3_readNumber 33 = .ok (.iconst 2, 1) := gdX3_readNumber_28.2.2.2.1
theorem dX3_readNumber_34 : decode cX3_readNumber 34 = .ok (.invokevirtual 42, 3) := gdX3_readNumber_28.2.2.2.2.1
theorem dX3_readNumber_37 : decode cX3_readNumber 37 = .ok (.pop, 1) := gdX3_readNumber_28.2.2.2.2.2.1
theorem dX3_readNumber_38 : decode cX3_readNumber 38 = .ok (.iconst (-1), 1) := gdX3_readNumber_28.2.2.2.2.2.2.1
theorem dX3_readNumber_39 : decode cX3_readNumber 39 = .ok (.ireturn, 1) := gdX3_readNumber_28.2.2.2.2.2.2.2
set_option maxRecDepth 20000 in
theorem gdX3_readNumber_40 : decode cX3_readNumber 40 = .ok (.aload_n 0, 1) ∧ decode cX3_readNumber 41 = .ok (.getfield 18, 3) ∧ decode cX3_readNumber 44 = .ok (.invokevirtual 65, 3) ∧ decode cX3_readNumber 47 = .ok (.iload_n 2, 1) ∧ decode cX3_readNumber 48 = .ok (.ireturn, 1) := by decide +kernel
theorem dX3_readNumber_40 : decode cX3_readNumber 40 = .ok (.aload_n 0, 1) := gdX3_readNumber_40.1
theorem dX3_readNumber_41 : decode cX3_readNumber 41 = .ok (.getfield 18, 3) := gdX3_readNumber_40.2.1
theorem dX3_readNumber_44 : decode cX3_readNumber 44 = .ok (.invokevirtual 65, 3) := gdX3_readNumber_40.2.2.1
theorem dX3_readNumber_47 : decode cX3_readNumber 47 = .ok (.iload_n 2, 1) := gdX3_readNumber_40.2.2.2.1
theorem dX3_readNumber_48 : decode cX3_readNumber 48 = .ok (.ireturn, 1) := gdX3_readNumber_40.2.2.2.2
set_option maxRecDepth 20000 in
theorem gdX3_readOpenCell_0 : decode cX3_readOpenCell 0 = .ok (.aload_n 0, 1) ∧ decode cX3_readOpenCell 1 = .ok (.aload_n 0, 1) ∧ decode cX3_readOpenCell 2 = .ok (.getfield 22, 3) ∧ decode cX3_readOpenCell 5 = .ok (.getfield 75, 3) ∧ decode cX3_readOpenCell 8 = .ok (.invokevirtual 104, 3) ∧ decode cX3_readOpenCell 11 = .ok (.istore_n 1, 1) ∧ decode cX3_readOpenCell 12 = .ok (.iload_n 1, 1) ∧ decode cX3_readOpenCell 13 = .ok (.iconst (-1), 1) := by decide +kernel
theorem dX3_readOpenCell_0 : decode cX3_readOpenCell 0 = .ok (.aload_n 0, 1) := gdX3_readOpenCell_0.1
theorem dX3_readOpenCell_1 : decode cX3_readOpenCell 1 = .ok (.aload_n 0, 1) := gdX3_readOpenCell_0.2.1
theorem dX3_readOpenCell_2 : decode cX3_readOpenCell 2 = .ok (.getfield 22, 3) := gdX3_readOpenCell_0.2.2.1
theorem dX3_readOpenCell_5 : decode cX3_readOpenCell 5 = .ok (.getfield 75, 3) := gdX3_readOpenCell_0.2.2.2.1
theorem dX3_readOpenCell_8 : decode cX3_readOpenCell 8 = .ok (.invokevirtual 104, 3) := gdX3_readOpenCell_0.2.2.2.2.1
theorem dX3_readOpenCell_11 : decode cX3_readOpenCell 11 = .ok (.istore_n 1, 1) := gdX3_readOpenCell_0.2.2.2.2.2.1
theorem dX3_readOpenCell_12 : decode cX3_readOpenCell 12 = .ok (.iload_n 1, 1) := gdX3_readOpenCell_0.2.2.2.2.2.2.1
theorem dX3_readOpenCell_13 : decode cX3_readOpenCell 13 = .ok (.iconst (-1), 1) := gdX3_readOpenCell_0.2.2.2.2.2.2.2
set_option maxRecDepth 20000 in
theorem gdX3_readOpenCell_14 : decode cX3_readOpenCell 14 = .ok (.if_icmp .ne 5, 3) ∧ decode cX3_readOpenCell 17 = .ok (.iconst (-1), 1) ∧ decode cX3_readOpenCell 18 = .ok (.ireturn, 1) ∧ decode cX3_readOpenCell 19 = .ok (.aload_n 0, 1) ∧ decode cX3_readOpenCell 20 = .ok (.getfield 18, 3) ∧ decode cX3_readOpenCell 23 = .ok (.getfield 56, 3) ∧ decode cX3_readOpenCell 26 = .ok (.iconst 2, 1) ∧ decode cX3_readOpenCell 27 = .ok (.if_icmp .ne 33, 3) := by decide +kernel
theorem dX3_readOpenCell_14 : decode cX3_readOpenCell 14 = .ok (.if_icmp .ne 5, 3) := gdX3_readOpenCell_14.1
theorem dX3_readOpenCell_17 : decode cX3_readOpenCell 17 = .ok (.iconst (-1), 1) := gdX3_readOpenCell_14.2.1
theorem dX3_readOpenCell_18 : decode cX3_readOpenCell 18 = .ok (.ireturn, 1) := gdX3_readOpenCell_14.2.2.1
theorem dX3_readOpenCell_19 : decode cX3_readOpenCell 19 = .ok (.aload_n 0, 1) := gdX3_readOpenCell_14.2.2.2.1
theorem dX3_readOpenCell_20 : decode cX3_readOpenCell 20 = .ok (.getfield 18, 3) := gdX3_readOpenCell_14.2.2.2.2.1
theorem dX3_readOpenCell_23 : decode cX3_readOpenCell 23 = .ok (.getfield 56, 3) := gdX3_readOpenCell_14.2.2.2.2.2.1
theorem dX3_readOpenCell_26 : decode cX3_readOpenCell 26 = .ok (.iconst 2, 1) := gdX3_readOpenCell_14.2.2.2.2.2.2.1
theorem dX3_readOpenCell_27 : decode cX3_readOpenCell 27 = .ok (.if_icmp .ne 33, 3) := gdX3_readOpenCell_14.2.2.2.2.2.2.2
set_option maxRecDepth 20000 in
theorem gdX3_readOpenCell_30 : decode cX3_readOpenCell 30 = .ok (.aload_n 0, 1) ∧ decode cX3_readOpenCell 31 = .ok (.getfield 22, 3) ∧ decode cX3_readOpenCell 34 = .ok (.iload_n 1, 1) ∧ decode cX3_readOpenCell 35 = .ok (.bipush 10, 2) ∧ decode cX3_readOpenCell 37 = .ok (.aload_n 0, 1) ∧ decode cX3_readOpenCell 38 = .ok (.getfield 18, 3) ∧ decode cX3_readOpenCell 41 = .ok (.getfield 114, 3) ∧ decode cX3_readOpenCell 44 = .ok (.imul, 1) := by decide +kernel
theorem dX3_readOpenCell_30 : decode cX3_readOpenCell 30 = .ok (.aload_n 0, 1) := gdX3_readOpenCell_30.1
theorem dX3_readOpenCell_31 : decode cX3_readOpenCell 31 = .ok (.getfield 22, 3) := gdX3_readOpenCell_30.2.1
theorem dX3_readOpenCell_34 : decode cX3_readOpenCell 34 = .ok (.iload_n 1, 1) := gdX3_readOpenCell_30.2.2.1
theorem dX3_readOpenCell_35 : decode cX3_readOpenCell 35 = .ok (.bipush 10, 2) := gdX3_readOpenCell_30.2.2.2.1
theorem dX3_readOpenCell_37 : decode cX3_readOpenCell 37 = .ok (.aload_n 0, 1) := gdX3_readOpenCell_30.2.2.2.2.1
theorem dX3_readOpenCell_38 : decode cX3_readOpenCell 38 = .ok (.getfield 18, 3) := gdX3_readOpenCell_30.2.2.2.2.2.1
theorem dX3_readOpenCell_41 : decode cX3_readOpenCell 41 = .ok (.getfield 114, 3) := gdX3_readOpenCell_30.2.2.2.2.2.2.1
theorem dX3_readOpenCell_44 : decode cX3_readOpenCell 44 = .ok (.imul, 1) := gdX3_readOpenCell_30.2.2.2.2.2.2.2
set_option maxRecDepth 20000 in
theorem gdX3_readOpenCell_45 : decode cX3_readOpenCell 45 = .ok (.iadd, 1) ∧ decode cX3_readOpenCell 46 = .ok (.invokevirtual 141, 3) ∧ decode cX3_readOpenCell 49 = .ok (.ifCond .ne 11, 3) ∧ decode cX3_readOpenCell 52 = .ok (.aload_n 0, 1) ∧ decode cX3_readOpenCell 53 = .ok (.iconst 2, 1) ∧ decode cX3_readOpenCell 54 = .ok (.invokevirtual 42, 3) ∧ decode cX3_readOpenCell 57 = .ok (.pop, 1) ∧ decode cX3_readOpenCell 58 = .ok (.iconst (-1), 1) := by decide +kernel
theorem dX3_readOpenCell_45 : decode cX3_readOpenCell 45 = .ok (.iadd, 1) := gdX3_readOpenCell_45.1
theorem dX3_readOpenCell_46 : decode cX3_readOpenCell 46 = .ok (.invokevirtual 141, 3) := gdX3_readOpenCell_45.2.1
theorem dX3_readOpenCell_49 : decode cX3_readOpenCell 49 = .ok (.ifCond .ne 11, 3) := gdX3_readOpenCell_45.2.2.1
theorem dX3_readOpenCell_52 : decode cX3_readOpenCell 52 = .ok (.aload_n 0, 1) := gdX3_readOpenCell_45.2.2.2.1
theorem dX3_readOpenCell_53 : decode cX3_readOpenCell 53 = .ok (.iconst 2, 1) := gdX3_readOpenCell_45.2.2.2.2.1
theorem dX3_readOpenCell_54 : decode cX3_readOpenCell 54 = .ok (.invokevirtual 42, 3) := gdX3_readOpenCell_45.2.2.2.2.2.1
theorem dX3_readOpenCell_57 : decode cX3_readOpenCell 57 = .ok (.pop, 1) := gdX3_readOpenCell_45.2.2.2.2.2.2.1
theorem dX3_readOpenCell_58 : decode cX3_readOpenCell 58 = .ok (.iconst (-1), 1) := gdX3_readOpenCell_45.2.2.2.2.2.2.2
set_option maxRecDepth 20000 in
theorem gdX3_readOpenCell_59 : decode cX3_readOpenCell 59 = .ok (.ireturn, 1) ∧ decode cX3_readOpenCell 60 = .ok (.aload_n 0, 1) ∧ decode cX3_readOpenCell 61 = .ok (.aload_n 0, 1) ∧ decode cX3_readOpenCell 62 = .ok (.getfield 22, 3) ∧ decode cX3_readOpenCell 65 = .ok (.getfield 78, 3) ∧ decode cX3_readOpenCell 68 = .ok (.invokevirtual 104, 3) ∧ decode cX3_readOpenCell 71 = .ok (.istore_n 2, 1) ∧ decode cX3_readOpenCell 72 = .ok (.iload_n 2, 1) := by decide +kernel
theorem dX3_readOpenCell_59 : decode cX3_readOpenCell 59 = .ok (.ireturn, 1) := gdX3_readOpenCell_59.1
theorem dX3_readOpenCell_60 : decode cX3_readOpenCell 60 = .ok (.aload_n 0, 1) := gdX3_readOpenCell_59.2.1
theorem dX3_readOpenCell_61 : decode cX3_readOpenCell 61 = .ok (.aload_n 0, 1) := gdX3_readOpenCell_59.2.2.1
theorem dX3_readOpenCell_62 : decode cX3_readOpenCell 62 = .ok (.getfield 22, 3) := gdX3_readOpenCell_59.2.2.2.1
theorem dX3_readOpenCell_65 : decode cX3_readOpenCell 65 = .ok (.getfield 78, 3) := gdX3_readOpenCell_59.2.2.2.2.1
theorem dX3_readOpenCell_68 : decode cX3_readOpenCell 68 = .ok (.invokevirtual 104, 3) := gdX3_readOpenCell_59.2.2.2.2.2.1
theorem dX3_readOpenCell_71 : decode cX3_readOpenCell 71 = .ok (.istore_n 2, 1) := gdX3_readOpenCell_59.2.2.2.2.2.2.1
theorem dX3_readOpenCell_72 : decode cX3_readOpenCell 72 = .ok (.iload_n 2, 1) := gdX3_readOpenCell_59.2.2.2.2.2.2.2
set_option maxRecDepth 20000 in
theorem gdX3_readOpenCell_73 : decode cX3_readOpenCell 73 = .ok (.iconst (-1), 1) ∧ decode cX3_readOpenCell 74 = .ok (.if_icmp .ne 7, 3) ∧ decode cX3_readOpenCell 77 = .ok (.iconst (-1), 1) ∧ decode cX3_readOpenCell 78 = .ok (.goto 9, 3) ∧ decode cX3_readOpenCell 81 = .ok (.iload_n 1, 1) ∧ decode cX3_readOpenCell 82 = .ok (.bipush 10, 2) ∧ decode cX3_readOpenCell 84 = .ok (.iload_n 2, 1) ∧ decode cX3_readOpenCell 85 = .ok (.imul, 1) := by decide +kernel
theorem dX3_readOpenCell_73 : decode cX3_readOpenCell 73 = .ok (.iconst (-1), 1) := gdX3_readOpenCell_73.1
theorem dX3_readOpenCell_74 : decode cX3_readOpenCell 74 = .ok (.if_icmp .ne 7, 3) := gdX3_readOpenCell_73.2.1
theorem dX3_readOpenCell_77 : decode cX3_readOpenCell 77 = .ok (.iconst (-1), 1) := gdX3_readOpenCell_73.2.2.1
theorem dX3_readOpenCell_78 : decode cX3_readOpenCell 78 = .ok (.goto 9, 3) := gdX3_readOpenCell_73.2.2.2.1
theorem dX3_readOpenCell_81 : decode cX3_readOpenCell 81 = .ok (.iload_n 1, 1) := gdX3_readOpenCell_73.2.2.2.2.1
theorem dX3_readOpenCell_82 : decode cX3_readOpenCell 82 = .ok (.bipush 10, 2) := gdX3_readOpenCell_73.2.2.2.2.2.1
theorem dX3_readOpenCell_84 : decode cX3_readOpenCell 84 = .ok (.iload_n 2, 1) := gdX3_readOpenCell_73.2.2.2.2.2.2.1
theorem dX3_readOpenCell_85 : decode cX3_readOpenCell 85 = .ok (.imul, 1) := gdX3_readOpenCell_73.2.2.2.2.2.2.2
theorem dX3_readOpenCell_86 : decode cX3_readOpenCell 86 = .ok (.iadd, 1) := by decide +kernel
theorem dX3_readOpenCell_87 : decode cX3_readOpenCell 87 = .ok (.ireturn, 1) := by decide +kernel
set_option maxRecDepth 20000 in
theorem gdX3_wrong_0 : decode cX3_wrong 0 = .ok (.aload_n 0, 1) ∧ decode cX3_wrong 1 = .ok (.iload_n 1, 1) ∧ decode cX3_wrong 2 = .ok (.putfield 9, 3) ∧ decode cX3_wrong 5 = .ok (.aload_n 0, 1) ∧ decode cX3_wrong 6 = .ok (.aload_n 0, 1) ∧ decode cX3_wrong 7 = .ok (.getfield 18, 3) ∧ decode cX3_wrong 10 = .ok (.getfield 59, 3) ∧ decode cX3_wrong 13 = .ok (.putfield 15, 3) := by decide +kernel
theorem dX3_wrong_0 : decode cX3_wrong 0 = .ok (.aload_n 0, 1) := gdX3_wrong_0.1
theorem dX3_wrong_1 : decode cX3_wrong 1 = .ok (.iload_n 1, 1) := gdX3_wrong_0.2.1
theorem dX3_wrong_2 : decode cX3_wrong 2 = .ok (.putfield 9, 3) := gdX3_wrong_0.2.2.1
theorem dX3_wrong_5 : decode cX3_wrong 5 = .ok (.aload_n 0, 1) := gdX3_wrong_0.2.2.2.1
theorem dX3_wrong_6 : decode cX3_wrong 6 = .ok (.aload_n 0, 1) := gdX3_wrong_0.2.2.2.2.1
theorem dX3_wrong_7 : decode cX3_wrong 7 = .ok (.getfield 18, 3) := gdX3_wrong_0.2.2.2.2.2.1
theorem dX3_wrong_10 : decode cX3_wrong 10 = .ok (.getfield 59, 3) := gdX3_wrong_0.2.2.2.2.2.2.1
theorem dX3_wrong_13 : decode cX3_wrong 13 = .ok (.putfield 15, 3) := gdX3_wrong_0.2.2.2.2.2.2.2
theorem dX3_wrong_16 : decode cX3_wrong 16 = .ok (.iconst 0, 1) := by decide +kernel
theorem dX3_wrong_17 : decode cX3_wrong 17 = .ok (.ireturn, 1) := by decide +kernel
theorem jX3_isRowOfCells_X1 : ∀ w ∈ u_ws RX1 TX1 12, w ∈ wsX3_isRowOfCells := fun w h => List.mem_cons_of_mem _ (List.mem_append_right _ h)
theorem jX3_isRowOfCells_X3 : ∀ w ∈ u_ws RX3 TX3 4, w ∈ wsX3_isRowOfCells := fun w h => List.mem_cons_of_mem _ (List.mem_append_left _ (List.mem_append_left _ (List.mem_append_right _ h)))
theorem jX3_isRowOfCells_X5 : ∀ w ∈ u_ws RX5 TX5 6, w ∈ wsX3_isRowOfCells := fun w h => List.mem_cons_of_mem _ (List.mem_append_left _ (List.mem_append_right _ h))
theorem jX3_passStop_X3 : ∀ w ∈ u_ws RX3 TX3 4, w ∈ wsX3_passStop := fun w h => List.mem_cons_of_mem _ (List.mem_append_left _ (List.mem_append_right _ h))
theorem jX3_passStop_X5 : ∀ w ∈ u_ws RX5 TX5 6, w ∈ wsX3_passStop := fun w h => List.mem_cons_of_mem _ (List.mem_append_right _ h)
theorem jX3_readNumber_X3 : ∀ w ∈ u_ws RX3 TX3 4, w ∈ wsX3_readNumber := fun w h => List.mem_cons_of_mem _ (List.mem_append_left _ (List.mem_append_right _ h))
theorem jX3_readNumber_X5 : ∀ w ∈ u_ws RX5 TX5 6, w ∈ wsX3_readNumber := fun w h => List.mem_cons_of_mem _ (List.mem_append_right _ h)
theorem jX3_readOpenCell_X1 : ∀ w ∈ u_ws RX1 TX1 12, w ∈ wsX3_readOpenCell := fun w h => List.mem_cons_of_mem _ (List.mem_append_left _ (List.mem_append_right _ h))
theorem jX3_readOpenCell_X3 : ∀ w ∈ u_ws RX3 TX3 4, w ∈ wsX3_readOpenCell := fun w h => List.mem_cons_of_mem _ (List.mem_append_left _ (List.mem_append_left _ (List.mem_append_right _ h)))
theorem jX3_readOpenCell_X5 : ∀ w ∈ u_ws RX5 TX5 6, w ∈ wsX3_readOpenCell := fun w h => List.mem_cons_of_mem _ (List.mem_append_right _ h)
theorem jX3_wrong_X3 : ∀ w ∈ u_ws RX3 TX3 4, w ∈ wsX3_wrong := fun w h => List.mem_cons_of_mem _ (List.mem_append_left _ (List.mem_append_right _ h))
theorem jX3_wrong_X5 : ∀ w ∈ u_ws RX5 TX5 6, w ∈ wsX3_wrong := fun w h => List.mem_cons_of_mem _ (List.mem_append_right _ h)
theorem hdS_X3_cellOf : yX3_cellOf.cls ≠ "java/lang/invoke/MethodHandle" ∧ yX3_cellOf.cls ≠ "java/lang/invoke/VarHandle" ∧ (parseMethodDescriptor yX3_cellOf.desc).map (fun d => d.parameters.length) = some 1 := by decide +kernel
theorem hdV_X3_readNumber : yX3_readNumber.cls = RX3 ∧ yX3_readNumber.cls ≠ "java/lang/invoke/MethodHandle" ∧ yX3_readNumber.cls ≠ "java/lang/invoke/VarHandle" ∧ (parseMethodDescriptor yX3_readNumber.desc).map (fun d => d.parameters.length) = some 1 := by decide +kernel
theorem hdV_X3_wrong : yX3_wrong.cls = RX3 ∧ yX3_wrong.cls ≠ "java/lang/invoke/MethodHandle" ∧ yX3_wrong.cls ≠ "java/lang/invoke/VarHandle" ∧ (parseMethodDescriptor yX3_wrong.desc).map (fun d => d.parameters.length) = some 1 := by decide +kernel
theorem hdV_X5_length : yX5_length.cls = RX5 ∧ yX5_length.cls ≠ "java/lang/invoke/MethodHandle" ∧ yX5_length.cls ≠ "java/lang/invoke/VarHandle" ∧ (parseMethodDescriptor yX5_length.desc).map (fun d => d.parameters.length) = some 0 := by decide +kernel
set_option maxHeartbeats 4000000 in
set_option maxRecDepth 100000 in
theorem s_X3_cellOf (l : Launch) (D : va_G) (cI cZ cC cS : ClassId) (sq : Nat → Nat) (sz : Nat) (le : Int32) : mI l yX3_cellOf wsX3_cellOf 0 0 D (tyW cI cZ cC cS) sq [] sz [.int le] (fun r w => ((-1 ≤ r.toInt ∧ r.toInt ≤ 8) ∧ (r.toInt = codC le.toInt) ∧ w = [])) := by
  refine b_metI (cc := cX3_cellOf) (maxL := 1) (ret := (some .int)) (by decide) rfl (Nat.le_of_ble_eq_true rfl) ?_
  intro p e s m below meth c ls A H X hsz hP hK hT hD hA hS hl
  have S : CallFix p m c cX3_cellOf 1 s ([.int le] : List Value).toArray wsX3_cellOf RX3 := X.1
  have hl : lv_has ls 1 [(0, .int le)] := hl
  refine lv_iload_n S.1 S.2.1 dX3_cellOf_0 rfl (lv_at hl 0 rfl) ?_
  refine lv_bipush (v := (97)) S.1 S.2.1 dX3_cellOf_1 (by decide) ?_
  refine lv_icmp_lt (tgt := 19) S.1 S.2.1 dX3_cellOf_3 (by decide) (fun c_1 => ?_) (fun c_1 => ?_)
  · rw [lt2 (a := le) (b := 97) (A := le.toInt) (B := 97) rfl rfl] at c_1
    refine lv_iload_n S.1 S.2.1 dX3_cellOf_19 rfl (lv_at hl 0 rfl) ?_
    rcases (show le.toInt = 109 ∨ le.toInt = 111 ∨ le.toInt = 119 ∨ (¬ le.toInt = 109 ∧ ¬ le.toInt = 111 ∧ ¬ le.toInt = 119) by omega) with hsw | hsw | hsw | hsw
    · refine lv_lookup (off := 40) (tgt := 60) S.1 S.2.1 dX3_cellOf_20 (by decide) (by show Op.lookupswitch.offset [(109, 40), (111, 36), (119, 38)] (42) le.toInt = 40; rw [hsw]; rfl) (by decide) ?_
      refine lv_iconst (v := (2)) S.1 S.2.1 dX3_cellOf_60 (by decide) ?_
      have lq2 : Int32.toInt (2) = 2 := by decide
      exact b_iret S.1 S.2.1 X.2.1 X.2.2.1 hP hD hS ⟨(by first | with_reducible assumption | (and_intros <;> first | with_reducible assumption | (intros; refine Int.le_antisymm ?_ ?_ <;> omega) | omega) | assumption | decide | (rw [show Int32.toInt 0 = 0 from rfl]; omega)), (by have z := codC_c le.toInt; unfold clL at z; omega), rfl⟩ dX3_cellOf_61
    · refine lv_lookup (off := 36) (tgt := 56) S.1 S.2.1 dX3_cellOf_20 (by decide) (by show Op.lookupswitch.offset [(109, 40), (111, 36), (119, 38)] (42) le.toInt = 36; rw [hsw]; rfl) (by decide) ?_
      refine lv_iconst (v := (0)) S.1 S.2.1 dX3_cellOf_56 (by decide) ?_
      have lq0 : Int32.toInt (0) = 0 := by decide
      exact b_iret S.1 S.2.1 X.2.1 X.2.2.1 hP hD hS ⟨(by first | with_reducible assumption | (and_intros <;> first | with_reducible assumption | (intros; refine Int.le_antisymm ?_ ?_ <;> omega) | omega) | assumption | decide | (rw [show Int32.toInt 0 = 0 from rfl]; omega)), (by have z := codC_c le.toInt; unfold clL at z; omega), rfl⟩ dX3_cellOf_57
    · refine lv_lookup (off := 38) (tgt := 58) S.1 S.2.1 dX3_cellOf_20 (by decide) (by show Op.lookupswitch.offset [(109, 40), (111, 36), (119, 38)] (42) le.toInt = 38; rw [hsw]; rfl) (by decide) ?_
      refine lv_iconst (v := (1)) S.1 S.2.1 dX3_cellOf_58 (by decide) ?_
      have lq1 : Int32.toInt (1) = 1 := by decide
      exact b_iret S.1 S.2.1 X.2.1 X.2.2.1 hP hD hS ⟨(by first | with_reducible assumption | (and_intros <;> first | with_reducible assumption | (intros; refine Int.le_antisymm ?_ ?_ <;> omega) | omega) | assumption | decide | (rw [show Int32.toInt 0 = 0 from rfl]; omega)), (by have z := codC_c le.toInt; unfold clL at z; omega), rfl⟩ dX3_cellOf_59
    · refine lv_lookup (off := 42) (tgt := 62) S.1 S.2.1 dX3_cellOf_20 (by decide) (by show Op.lookupswitch.offset [(109, 40), (111, 36), (119, 38)] (42) le.toInt = 42; simp only [Op.lookupswitch.offset]; rw [if_neg (by first | (refine Int.le_antisymm ?_ ?_ <;> omega) | omega), if_neg (by first | (refine Int.le_antisymm ?_ ?_ <;> omega) | omega), if_neg (by first | (refine Int.le_antisymm ?_ ?_ <;> omega) | omega)]) (by decide) ?_
      refine lv_iconst (v := (-1)) S.1 S.2.1 dX3_cellOf_62 (by decide) ?_
      have lqm1 : Int32.toInt (-1) = -1 := by decide
      exact b_iret S.1 S.2.1 X.2.1 X.2.2.1 hP hD hS ⟨(by first | with_reducible assumption | (and_intros <;> first | with_reducible assumption | (intros; refine Int.le_antisymm ?_ ?_ <;> omega) | omega) | assumption | decide | (rw [show Int32.toInt 0 = 0 from rfl]; omega)), (by have z := codC_c le.toInt; unfold clL at z; omega), rfl⟩ dX3_cellOf_63
  · rw [lt2 (a := le) (b := 97) (A := le.toInt) (B := 97) rfl rfl] at c_1
    refine lv_iload_n S.1 S.2.1 dX3_cellOf_6 rfl (lv_at hl 0 rfl) ?_
    refine lv_bipush (v := (103)) S.1 S.2.1 dX3_cellOf_7 (by decide) ?_
    refine lv_icmp_ge (tgt := 19) S.1 S.2.1 dX3_cellOf_9 (by decide) (fun c_2 => ?_) (fun c_2 => ?_)
    · rw [le2 (a := 103) (b := le) (A := 103) (B := le.toInt) rfl rfl] at c_2
      refine lv_iload_n S.1 S.2.1 dX3_cellOf_19 rfl (lv_at hl 0 rfl) ?_
      rcases (show le.toInt = 109 ∨ le.toInt = 111 ∨ le.toInt = 119 ∨ (¬ le.toInt = 109 ∧ ¬ le.toInt = 111 ∧ ¬ le.toInt = 119) by omega) with hsw | hsw | hsw | hsw
      · refine lv_lookup (off := 40) (tgt := 60) S.1 S.2.1 dX3_cellOf_20 (by decide) (by show Op.lookupswitch.offset [(109, 40), (111, 36), (119, 38)] (42) le.toInt = 40; rw [hsw]; rfl) (by decide) ?_
        refine lv_iconst (v := (2)) S.1 S.2.1 dX3_cellOf_60 (by decide) ?_
        have lq2 : Int32.toInt (2) = 2 := by decide
        exact b_iret S.1 S.2.1 X.2.1 X.2.2.1 hP hD hS ⟨(by first | with_reducible assumption | (and_intros <;> first | with_reducible assumption | (intros; refine Int.le_antisymm ?_ ?_ <;> omega) | omega) | assumption | decide | (rw [show Int32.toInt 0 = 0 from rfl]; omega)), (by have z := codC_c le.toInt; unfold clL at z; omega), rfl⟩ dX3_cellOf_61
      · refine lv_lookup (off := 36) (tgt := 56) S.1 S.2.1 dX3_cellOf_20 (by decide) (by show Op.lookupswitch.offset [(109, 40), (111, 36), (119, 38)] (42) le.toInt = 36; rw [hsw]; rfl) (by decide) ?_
        refine lv_iconst (v := (0)) S.1 S.2.1 dX3_cellOf_56 (by decide) ?_
        have lq0 : Int32.toInt (0) = 0 := by decide
        exact b_iret S.1 S.2.1 X.2.1 X.2.2.1 hP hD hS ⟨(by first | with_reducible assumption | (and_intros <;> first | with_reducible assumption | (intros; refine Int.le_antisymm ?_ ?_ <;> omega) | omega) | assumption | decide | (rw [show Int32.toInt 0 = 0 from rfl]; omega)), (by have z := codC_c le.toInt; unfold clL at z; omega), rfl⟩ dX3_cellOf_57
      · refine lv_lookup (off := 38) (tgt := 58) S.1 S.2.1 dX3_cellOf_20 (by decide) (by show Op.lookupswitch.offset [(109, 40), (111, 36), (119, 38)] (42) le.toInt = 38; rw [hsw]; rfl) (by decide) ?_
        refine lv_iconst (v := (1)) S.1 S.2.1 dX3_cellOf_58 (by decide) ?_
        have lq1 : Int32.toInt (1) = 1 := by decide
        exact b_iret S.1 S.2.1 X.2.1 X.2.2.1 hP hD hS ⟨(by first | with_reducible assumption | (and_intros <;> first | with_reducible assumption | (intros; refine Int.le_antisymm ?_ ?_ <;> omega) | omega) | assumption | decide | (rw [show Int32.toInt 0 = 0 from rfl]; omega)), (by have z := codC_c le.toInt; unfold clL at z; omega), rfl⟩ dX3_cellOf_59
      · refine lv_lookup (off := 42) (tgt := 62) S.1 S.2.1 dX3_cellOf_20 (by decide) (by show Op.lookupswitch.offset [(109, 40), (111, 36), (119, 38)] (42) le.toInt = 42; simp only [Op.lookupswitch.offset]; rw [if_neg (by first | (refine Int.le_antisymm ?_ ?_ <;> omega) | omega), if_neg (by first | (refine Int.le_antisymm ?_ ?_ <;> omega) | omega), if_neg (by first | (refine Int.le_antisymm ?_ ?_ <;> omega) | omega)]) (by decide) ?_
        refine lv_iconst (v := (-1)) S.1 S.2.1 dX3_cellOf_62 (by decide) ?_
        have lqm1 : Int32.toInt (-1) = -1 := by decide
        exact b_iret S.1 S.2.1 X.2.1 X.2.2.1 hP hD hS ⟨(by first | with_reducible assumption | (and_intros <;> first | with_reducible assumption | (intros; refine Int.le_antisymm ?_ ?_ <;> omega) | omega) | assumption | decide | (rw [show Int32.toInt 0 = 0 from rfl]; omega)), (by have z := codC_c le.toInt; unfold clL at z; omega), rfl⟩ dX3_cellOf_63
    · rw [le2 (a := 103) (b := le) (A := 103) (B := le.toInt) rfl rfl] at c_2
      refine lv_iconst (v := (3)) S.1 S.2.1 dX3_cellOf_12 (by decide) ?_
      refine lv_iload_n S.1 S.2.1 dX3_cellOf_13 rfl (lv_at hl 0 rfl) ?_
      refine lv_iadd S.1 S.2.1 dX3_cellOf_14 ?_
      refine lv_topi (fun x_3 ex_3 => ?_)
      have tx_3 : x_3.toInt = 3 + (le.toInt) := addI (A := 3) (B := le.toInt) ex_3 rfl rfl (by  omega) (by  omega)
      refine lv_bipush (v := (97)) S.1 S.2.1 dX3_cellOf_15 (by decide) ?_
      refine lv_isub S.1 S.2.1 dX3_cellOf_17 ?_
      refine lv_topi (fun x_4 ex_4 => ?_)
      have tx_4 : x_4.toInt = x_3.toInt - (97) := subI (A := x_3.toInt) (B := 97) ex_4 rfl rfl (by  omega) (by  omega)
      exact b_iret S.1 S.2.1 X.2.1 X.2.2.1 hP hD hS ⟨(by first | with_reducible assumption | (and_intros <;> first | with_reducible assumption | (intros; refine Int.le_antisymm ?_ ?_ <;> omega) | omega) | assumption | decide | (rw [show Int32.toInt 0 = 0 from rfl]; omega)), (by have z := codC_c le.toInt; unfold clL at z; omega), rfl⟩ dX3_cellOf_18
set_option maxHeartbeats 4000000 in
set_option maxRecDepth 100000 in
theorem s_X3_wrong (l : Launch) (D : va_G) (cI cZ cC cS : ClassId) (sq : Nat → Nat) (sz : Nat) (rd : Nat) (tp : Nat) (nu : Int32) (ct : Nat) (fn : Int32) (fpl : Int32) (by_ : Nat) (tz : Int32) (ts : Int32) (ta : Int32) (tb : Int32) (tv : Int32) : mI l yX3_wrong wsX3_wrong 0 0 D (tyW cI cZ cC cS) sq [(rd, .inr (3, [.ref tp, .ref ct, .int fn, .int fpl])), (tp, .inr (5, [.ref by_, .int tz, .int ts, .int ta, .int tb, .int tv]))] sz [.ref rd, .int nu] (fun r w => (r = 0 ∧ w = [(rd, .inr (3, [.ref tp, .ref ct, .int nu, .int ta])), (tp, .inr (5, [.ref by_, .int tz, .int ts, .int ta, .int tb, .int tv]))])) := by
  refine b_metI (cc := cX3_wrong) (maxL := 2) (ret := (some .boolean)) (by decide) rfl (Nat.le_of_ble_eq_true rfl) ?_
  intro p e s m below meth c ls A H X hsz hP hK hT hD hA hS hl
  have S : CallFix p m c cX3_wrong 2 s ([.ref rd, .int nu] : List Value).toArray wsX3_wrong RX3 := X.1
  have hl : lv_has ls 2 [(0, .ref rd), (1, .int nu)] := hl
  have iX3 := jX3_wrong_X3
  have iX5 := jX3_wrong_X5
  refine lv_aload_n S.1 S.2.1 dX3_wrong_0 rfl (lv_at hl 0 rfl) ?_
  refine lv_iload_n S.1 S.2.1 dX3_wrong_1 rfl (lv_at hl 1 rfl) ?_
  refine b_put (v := .int nu) S iX3 tyX3 tyX3_ok nmX3 hK hP hD hS 0 rfl rfl 2 (by decide) (by decide +kernel) rfl rfl rfl (Nat.le_of_ble_eq_true rfl) dX3_wrong_2 (fun H locs hP hD hS => ?_)
  have hP : va_P D vwCl [(rd, .inr (3, [.ref tp, .ref ct, .int nu, .int fpl])), (tp, .inr (5, [.ref by_, .int tz, .int ts, .int ta, .int tb, .int tv]))] H := hP
  have hD : va_D A [(rd, .inr (3, [.ref tp, .ref ct, .int nu, .int fpl])), (tp, .inr (5, [.ref by_, .int tz, .int ts, .int ta, .int tb, .int tv]))] := hD
  refine lv_aload_n S.1 S.2.1 dX3_wrong_5 rfl (lv_at hl 0 rfl) ?_
  refine lv_aload_n S.1 S.2.1 dX3_wrong_6 rfl (lv_at hl 0 rfl) ?_
  refine b_get (v := .ref tp) S iX3 hK hP 0 rfl rfl 0 (by decide) (by decide +kernel) rfl dX3_wrong_7 ?_
  refine b_get (v := .int ta) S iX5 hK hP 1 rfl rfl 3 (by decide) (by decide +kernel) rfl dX3_wrong_10 ?_
  refine b_put (v := .int ta) S iX3 tyX3 tyX3_ok nmX3 hK hP hD hS 0 rfl rfl 3 (by decide) (by decide +kernel) rfl rfl rfl (Nat.le_of_ble_eq_true rfl) dX3_wrong_13 (fun H locs hP hD hS => ?_)
  have hP : va_P D vwCl [(rd, .inr (3, [.ref tp, .ref ct, .int nu, .int ta])), (tp, .inr (5, [.ref by_, .int tz, .int ts, .int ta, .int tb, .int tv]))] H := hP
  have hD : va_D A [(rd, .inr (3, [.ref tp, .ref ct, .int nu, .int ta])), (tp, .inr (5, [.ref by_, .int tz, .int ts, .int ta, .int tb, .int tv]))] := hD
  refine lv_iconst (v := (0)) S.1 S.2.1 dX3_wrong_16 (by decide) ?_
  exact b_zret S.1 S.2.1 X.2.1 X.2.2.1 rfl hP hD hS ⟨rfl, rfl⟩ dX3_wrong_17
set_option maxHeartbeats 4000000 in
set_option maxRecDepth 100000 in
theorem s_X3_passStop_1 (l : Launch) (D : va_G) (cI cZ cC cS : ClassId) (sq : Nat → Nat) (sz : Nat) (rd : Nat) (tp : Nat) (by_ : Nat) (ct : Nat) (fn : Int32) (fpl : Int32) (tz : Int32) (ts : Int32) (ta : Int32) (tb : Int32) (tv : Int32) (f : Nat → Int32) (a0 : Int) (hrg_f : rng f 400 (0) (255)) (hz : 0 ≤ tz.toInt ∧ tz.toInt ≤ 400) (ht1 : 0 ≤ ta.toInt ∧ ta.toInt ≤ tb.toInt ∧ tb.toInt ≤ tz.toInt) (ht2 : ts.toInt = 2 → 0 ≤ tv.toInt ∧ tv.toInt ≤ 999) (ht3 : tok (tx f tz.toInt) a0 ts.toInt ta.toInt tb.toInt tv.toInt) : mI l yX3_passStop wsX3_passStop 2 80 D (tyW cI cZ cC cS) sq [(rd, .inr (3, [.ref tp, .ref ct, .int fn, .int fpl])), (tp, .inr (5, [.ref by_, .int tz, .int ts, .int ta, .int tb, .int tv])), (by_, .inl (cI, 400, .inl f))] sz [.ref rd, .int 1] (fun r w => (∃ (fn2 : Int32), ∃ (fpl2 : Int32), ∃ (ts2 : Int32), ∃ (ta2 : Int32), ∃ (tb2 : Int32), ∃ (tv2 : Int32), (0 ≤ ta2.toInt ∧ ta2.toInt ≤ tb2.toInt ∧ tb2.toInt ≤ tz.toInt) ∧ (ts2.toInt = 2 → 0 ≤ tv2.toInt ∧ tv2.toInt ≤ 999) ∧ (tok (tx f tz.toInt) (nx (tx f tz.toInt) (nx (tx f tz.toInt) a0)) ts2.toInt ta2.toInt tb2.toInt tv2.toInt) ∧ (tK (tx f tz.toInt) (nx (tx f tz.toInt) a0) = 3) ∧ r = 1 ∧ w = [(rd, .inr (3, [.ref tp, .ref ct, .int fn2, .int fpl2])), (tp, .inr (5, [.ref by_, .int tz, .int ts2, .int ta2, .int tb2, .int tv2])), (by_, .inl (cI, 400, .inl f))]) ∨ (∃ (fn2 : Int32), ∃ (fpl2 : Int32), ∃ (ts2 : Int32), ∃ (ta2 : Int32), ∃ (tb2 : Int32), ∃ (tv2 : Int32), (0 ≤ ta2.toInt ∧ ta2.toInt ≤ tb2.toInt ∧ tb2.toInt ≤ tz.toInt) ∧ (ts2.toInt = 2 → 0 ≤ tv2.toInt ∧ tv2.toInt ≤ 999) ∧ (¬ tK (tx f tz.toInt) (nx (tx f tz.toInt) a0) = 3) ∧ (fn2.toInt = 1 ∧ fpl2.toInt = (nx (tx f tz.toInt) a0)) ∧ r = 0 ∧ w = [(rd, .inr (3, [.ref tp, .ref ct, .int fn2, .int fpl2])), (tp, .inr (5, [.ref by_, .int tz, .int ts2, .int ta2, .int tb2, .int tv2])), (by_, .inl (cI, 400, .inl f))])) := by
  refine b_metI (cc := cX3_passStop) (maxL := 2) (ret := (some .boolean)) (by decide) rfl (Nat.le_of_ble_eq_true rfl) ?_
  intro p e s m below meth c ls A H X hsz hP hK hT hD hA hS hl
  have S : CallFix p m c cX3_passStop 2 s ([.ref rd, .int 1] : List Value).toArray wsX3_passStop RX3 := X.1
  have hl : lv_has ls 2 [(0, .ref rd), (1, .int 1)] := hl
  have iX3 := jX3_passStop_X3
  have iX5 := jX3_passStop_X5
  refine lv_iload_n S.1 S.2.1 dX3_passStop_0 rfl (lv_at hl 1 rfl) ?_
  refine lv_if_eq (tgt := 11) S.1 S.2.1 dX3_passStop_1 (by decide) (fun c_1 => absurd c_1 (by decide)) (fun c_1 => ?_)
  refine lv_aload_n S.1 S.2.1 dX3_passStop_4 rfl (lv_at hl 0 rfl) ?_
  refine b_get (v := .ref tp) S iX3 hK hP 0 rfl rfl 0 (by decide) (by decide +kernel) rfl dX3_passStop_5 ?_
  refine b_av (wr := [(rd, .inr (3, [.ref tp, .ref ct, .int fn, .int fpl]))]) (b_runV (q0 := 1) (ci := 5) (As := []) (s_X5_advance l D cI cZ cC cS sq H.size tp by_ tz ts ta tb tv f _ (by first | with_reducible assumption | assumption | omega | decide | (rw [show Int32.toInt 0 = 0 from rfl]; omega)) (by first | with_reducible assumption | (and_intros <;> first | with_reducible assumption | (intros; refine Int.le_antisymm ?_ ?_ <;> omega) | omega) | assumption | decide | (rw [show Int32.toInt 0 = 0 from rfl]; omega)) (by first | with_reducible assumption | (and_intros <;> first | with_reducible assumption | (intros; refine Int.le_antisymm ?_ ?_ <;> omega) | omega) | assumption | decide | (rw [show Int32.toInt 0 = 0 from rfl]; omega)) (by first | with_reducible assumption | assumption | omega | decide | (rw [show Int32.toInt 0 = 0 from rfl]; omega))) S gX3_passStop_X5_advance rfl hdV_X5_advance ⟨Nat.le_of_ble_eq_true rfl, Nat.le_of_ble_eq_true rfl⟩ ⟨Nat.le_of_ble_eq_true rfl, Nat.le_of_ble_eq_true rfl⟩ hK hT hS hA hP hD rfl rfl [1, 2] rfl (by decide) rfl hl.1 rfl (Nat.le_of_ble_eq_true rfl) dX3_passStop_8) hP hD hS hA [1, 2] [0] rfl rfl (by decide) (by decide) (fun w_3 H locs hw_4 hP hD hS => ?_)
  obtain ⟨ts2_5, ta2_6, tb2_7, tv2_8, hf_9, hf_10, hf_11, rfl⟩ := hw_4
  have hP : va_P D vwCl [(rd, .inr (3, [.ref tp, .ref ct, .int fn, .int fpl])), (tp, .inr (5, [.ref by_, .int tz, .int ts2_5, .int ta2_6, .int tb2_7, .int tv2_8])), (by_, .inl (cI, 400, .inl f))] H := hP
  have hD : va_D A [(rd, .inr (3, [.ref tp, .ref ct, .int fn, .int fpl])), (tp, .inr (5, [.ref by_, .int tz, .int ts2_5, .int ta2_6, .int tb2_7, .int tv2_8])), (by_, .inl (cI, 400, .inl f))] := hD
  refine lv_aload_n S.1 S.2.1 dX3_passStop_11 rfl (lv_at hl 0 rfl) ?_
  refine b_get (v := .ref tp) S iX3 hK hP 0 rfl rfl 0 (by decide) (by decide +kernel) rfl dX3_passStop_12 ?_
  refine b_get (v := .int ts2_5) S iX5 hK hP 1 rfl rfl 2 (by decide) (by decide +kernel) rfl dX3_passStop_15 ?_
  refine lv_iconst (v := (3)) S.1 S.2.1 dX3_passStop_18 (by decide) ?_
  refine lv_icmp_eq (tgt := 28) S.1 S.2.1 dX3_passStop_19 (by decide) (fun c_12 => ?_) (fun c_12 => ?_)
  · rw [eq2 (a := ts2_5) (b := 3) (A := ts2_5.toInt) (B := 3) rfl rfl] at c_12
    refine lv_aload_n S.1 S.2.1 dX3_passStop_28 rfl (lv_at hl 0 rfl) ?_
    refine b_get (v := .ref tp) S iX3 hK hP 0 rfl rfl 0 (by decide) (by decide +kernel) rfl dX3_passStop_29 ?_
    refine b_av (wr := [(rd, .inr (3, [.ref tp, .ref ct, .int fn, .int fpl]))]) (b_runV (q0 := 1) (ci := 5) (As := []) (s_X5_advance l D cI cZ cC cS sq H.size tp by_ tz ts2_5 ta2_6 tb2_7 tv2_8 f _ (by first | with_reducible assumption | assumption | omega | decide | (rw [show Int32.toInt 0 = 0 from rfl]; omega)) (by first | with_reducible assumption | (and_intros <;> first | with_reducible assumption | (intros; refine Int.le_antisymm ?_ ?_ <;> omega) | omega) | assumption | decide | (rw [show Int32.toInt 0 = 0 from rfl]; omega)) (by first | with_reducible assumption | (and_intros <;> first | with_reducible assumption | (intros; refine Int.le_antisymm ?_ ?_ <;> omega) | omega) | assumption | decide | (rw [show Int32.toInt 0 = 0 from rfl]; omega)) (by first | with_reducible assumption | assumption | omega | decide | (rw [show Int32.toInt 0 = 0 from rfl]; omega))) S gX3_passStop_X5_advance rfl hdV_X5_advance ⟨Nat.le_of_ble_eq_true rfl, Nat.le_of_ble_eq_true rfl⟩ ⟨Nat.le_of_ble_eq_true rfl, Nat.le_of_ble_eq_true rfl⟩ hK hT hS hA hP hD rfl rfl [1, 2] rfl (by decide) rfl hl.1 rfl (Nat.le_of_ble_eq_true rfl) dX3_passStop_32) hP hD hS hA [1, 2] [0] rfl rfl (by decide) (by decide) (fun w_14 H locs hw_15 hP hD hS => ?_)
    obtain ⟨ts2_16, ta2_17, tb2_18, tv2_19, hf_20, hf_21, hf_22, rfl⟩ := hw_15
    have hP : va_P D vwCl [(rd, .inr (3, [.ref tp, .ref ct, .int fn, .int fpl])), (tp, .inr (5, [.ref by_, .int tz, .int ts2_16, .int ta2_17, .int tb2_18, .int tv2_19])), (by_, .inl (cI, 400, .inl f))] H := hP
    have hD : va_D A [(rd, .inr (3, [.ref tp, .ref ct, .int fn, .int fpl])), (tp, .inr (5, [.ref by_, .int tz, .int ts2_16, .int ta2_17, .int tb2_18, .int tv2_19])), (by_, .inl (cI, 400, .inl f))] := hD
    refine lv_iconst (v := (1)) S.1 S.2.1 dX3_passStop_35 (by decide) ?_
    exact b_zret S.1 S.2.1 X.2.1 X.2.2.1 rfl hP hD hS (Or.inl ⟨fn, fpl, ts2_16, ta2_17, tb2_18, tv2_19, (by first | with_reducible assumption | (and_intros <;> first | with_reducible assumption | (intros; refine Int.le_antisymm ?_ ?_ <;> omega) | omega) | assumption | decide | (rw [show Int32.toInt 0 = 0 from rfl]; omega)), (by first | with_reducible assumption | (and_intros <;> first | with_reducible assumption | (intros; refine Int.le_antisymm ?_ ?_ <;> omega) | omega) | assumption | decide | (rw [show Int32.toInt 0 = 0 from rfl]; omega)), (by first | with_reducible assumption | assumption | omega | decide | (rw [show Int32.toInt 0 = 0 from rfl]; omega)), (tok_k (by assumption) (by assumption)), rfl, rfl⟩) dX3_passStop_36
  · rw [eq2 (a := ts2_5) (b := 3) (A := ts2_5.toInt) (B := 3) rfl rfl] at c_12
    refine lv_aload_n S.1 S.2.1 dX3_passStop_22 rfl (lv_at hl 0 rfl) ?_
    refine lv_iconst (v := (1)) S.1 S.2.1 dX3_passStop_23 (by decide) ?_
    refine b_ai (wr := [(by_, .inl (cI, 400, .inl f))]) (b_runV (q0 := 0) (ci := 3) (As := [.int 1]) (s_X3_wrong l D cI cZ cC cS sq H.size rd tp (1) ct fn fpl by_ tz ts2_5 ta2_6 tb2_7 tv2_8) S gX3_passStop_X3_wrong rfl hdV_X3_wrong ⟨Nat.le_of_ble_eq_true rfl, Nat.le_of_ble_eq_true rfl⟩ ⟨Nat.le_of_ble_eq_true rfl, Nat.le_of_ble_eq_true rfl⟩ hK hT hS hA hP hD rfl rfl [0, 1] rfl (by decide) rfl hl.1 rfl (Nat.le_of_ble_eq_true rfl) dX3_passStop_24) hP hD hS hA [0, 1] [2] rfl rfl (by decide) (by decide) (fun r_23 w_24 H locs hw_25 hP hD hS => ?_)
    obtain ⟨rfl, rfl⟩ := hw_25
    have hP : va_P D vwCl [(by_, .inl (cI, 400, .inl f)), (rd, .inr (3, [.ref tp, .ref ct, .int 1, .int ta2_6])), (tp, .inr (5, [.ref by_, .int tz, .int ts2_5, .int ta2_6, .int tb2_7, .int tv2_8]))] H := hP
    have hD : va_D A [(by_, .inl (cI, 400, .inl f)), (rd, .inr (3, [.ref tp, .ref ct, .int 1, .int ta2_6])), (tp, .inr (5, [.ref by_, .int tz, .int ts2_5, .int ta2_6, .int tb2_7, .int tv2_8]))] := hD
    have hP := hP.sub (ws' := [(rd, .inr (3, [.ref tp, .ref ct, .int 1, .int ta2_6])), (tp, .inr (5, [.ref by_, .int tz, .int ts2_5, .int ta2_6, .int tb2_7, .int tv2_8])), (by_, .inl (cI, 400, .inl f))]) [1, 2, 0] rfl
    have hD := hD.sub (ws' := [(rd, .inr (3, [.ref tp, .ref ct, .int 1, .int ta2_6])), (tp, .inr (5, [.ref by_, .int tz, .int ts2_5, .int ta2_6, .int tb2_7, .int tv2_8])), (by_, .inl (cI, 400, .inl f))]) [1, 2, 0] (by decide) rfl
    have lq1 : Int32.toInt (1) = 1 := by decide
    exact b_zret S.1 S.2.1 X.2.1 X.2.2.1 rfl hP hD hS (Or.inr (⟨(1), ta2_6, ts2_5, ta2_6, tb2_7, tv2_8, (by first | with_reducible assumption | (and_intros <;> first | with_reducible assumption | (intros; refine Int.le_antisymm ?_ ?_ <;> omega) | omega) | assumption | decide | (rw [show Int32.toInt 0 = 0 from rfl]; omega)), (by first | with_reducible assumption | (and_intros <;> first | with_reducible assumption | (intros; refine Int.le_antisymm ?_ ?_ <;> omega) | omega) | assumption | decide | (rw [show Int32.toInt 0 = 0 from rfl]; omega)), (tok_nk (by assumption) (by assumption)), ⟨by decide, tok_a (by assumption)⟩, rfl, rfl⟩)) dX3_passStop_27
set_option maxHeartbeats 4000000 in
set_option maxRecDepth 100000 in
theorem s_X3_passStop_0 (l : Launch) (D : va_G) (cI cZ cC cS : ClassId) (sq : Nat → Nat) (sz : Nat) (rd : Nat) (tp : Nat) (by_ : Nat) (ct : Nat) (fn : Int32) (fpl : Int32) (tz : Int32) (ts : Int32) (ta : Int32) (tb : Int32) (tv : Int32) (f : Nat → Int32) (a0 : Int) (hrg_f : rng f 400 (0) (255)) (hz : 0 ≤ tz.toInt ∧ tz.toInt ≤ 400) (ht1 : 0 ≤ ta.toInt ∧ ta.toInt ≤ tb.toInt ∧ tb.toInt ≤ tz.toInt) (ht2 : ts.toInt = 2 → 0 ≤ tv.toInt ∧ tv.toInt ≤ 999) (ht3 : tok (tx f tz.toInt) a0 ts.toInt ta.toInt tb.toInt tv.toInt) : mI l yX3_passStop wsX3_passStop 2 80 D (tyW cI cZ cC cS) sq [(rd, .inr (3, [.ref tp, .ref ct, .int fn, .int fpl])), (tp, .inr (5, [.ref by_, .int tz, .int ts, .int ta, .int tb, .int tv])), (by_, .inl (cI, 400, .inl f))] sz [.ref rd, .int 0] (fun r w => (∃ (fn2 : Int32), ∃ (fpl2 : Int32), ∃ (ts2 : Int32), ∃ (ta2 : Int32), ∃ (tb2 : Int32), ∃ (tv2 : Int32), (0 ≤ ta2.toInt ∧ ta2.toInt ≤ tb2.toInt ∧ tb2.toInt ≤ tz.toInt) ∧ (ts2.toInt = 2 → 0 ≤ tv2.toInt ∧ tv2.toInt ≤ 999) ∧ (tok (tx f tz.toInt) (nx (tx f tz.toInt) a0) ts2.toInt ta2.toInt tb2.toInt tv2.toInt) ∧ (tK (tx f tz.toInt) a0 = 3) ∧ r = 1 ∧ w = [(rd, .inr (3, [.ref tp, .ref ct, .int fn2, .int fpl2])), (tp, .inr (5, [.ref by_, .int tz, .int ts2, .int ta2, .int tb2, .int tv2])), (by_, .inl (cI, 400, .inl f))]) ∨ (∃ (fn2 : Int32), ∃ (fpl2 : Int32), ∃ (ts2 : Int32), ∃ (ta2 : Int32), ∃ (tb2 : Int32), ∃ (tv2 : Int32), (0 ≤ ta2.toInt ∧ ta2.toInt ≤ tb2.toInt ∧ tb2.toInt ≤ tz.toInt) ∧ (ts2.toInt = 2 → 0 ≤ tv2.toInt ∧ tv2.toInt ≤ 999) ∧ (¬ tK (tx f tz.toInt) a0 = 3) ∧ (fn2.toInt = 1 ∧ fpl2.toInt = a0) ∧ r = 0 ∧ w = [(rd, .inr (3, [.ref tp, .ref ct, .int fn2, .int fpl2])), (tp, .inr (5, [.ref by_, .int tz, .int ts2, .int ta2, .int tb2, .int tv2])), (by_, .inl (cI, 400, .inl f))])) := by
  refine b_metI (cc := cX3_passStop) (maxL := 2) (ret := (some .boolean)) (by decide) rfl (Nat.le_of_ble_eq_true rfl) ?_
  intro p e s m below meth c ls A H X hsz hP hK hT hD hA hS hl
  have S : CallFix p m c cX3_passStop 2 s ([.ref rd, .int 0] : List Value).toArray wsX3_passStop RX3 := X.1
  have hl : lv_has ls 2 [(0, .ref rd), (1, .int 0)] := hl
  have iX3 := jX3_passStop_X3
  have iX5 := jX3_passStop_X5
  refine lv_iload_n S.1 S.2.1 dX3_passStop_0 rfl (lv_at hl 1 rfl) ?_
  refine lv_if_eq (tgt := 11) S.1 S.2.1 dX3_passStop_1 (by decide) (fun c_1 => ?_) (fun c_1 => absurd c_1 (by decide))
  refine lv_aload_n S.1 S.2.1 dX3_passStop_11 rfl (lv_at hl 0 rfl) ?_
  refine b_get (v := .ref tp) S iX3 hK hP 0 rfl rfl 0 (by decide) (by decide +kernel) rfl dX3_passStop_12 ?_
  refine b_get (v := .int ts) S iX5 hK hP 1 rfl rfl 2 (by decide) (by decide +kernel) rfl dX3_passStop_15 ?_
  refine lv_iconst (v := (3)) S.1 S.2.1 dX3_passStop_18 (by decide) ?_
  refine lv_icmp_eq (tgt := 28) S.1 S.2.1 dX3_passStop_19 (by decide) (fun c_2 => ?_) (fun c_2 => ?_)
  · rw [eq2 (a := ts) (b := 3) (A := ts.toInt) (B := 3) rfl rfl] at c_2
    refine lv_aload_n S.1 S.2.1 dX3_passStop_28 rfl (lv_at hl 0 rfl) ?_
    refine b_get (v := .ref tp) S iX3 hK hP 0 rfl rfl 0 (by decide) (by decide +kernel) rfl dX3_passStop_29 ?_
    refine b_av (wr := [(rd, .inr (3, [.ref tp, .ref ct, .int fn, .int fpl]))]) (b_runV (q0 := 1) (ci := 5) (As := []) (s_X5_advance l D cI cZ cC cS sq H.size tp by_ tz ts ta tb tv f _ (by first | with_reducible assumption | assumption | omega | decide | (rw [show Int32.toInt 0 = 0 from rfl]; omega)) (by first | with_reducible assumption | (and_intros <;> first | with_reducible assumption | (intros; refine Int.le_antisymm ?_ ?_ <;> omega) | omega) | assumption | decide | (rw [show Int32.toInt 0 = 0 from rfl]; omega)) (by first | with_reducible assumption | (and_intros <;> first | with_reducible assumption | (intros; refine Int.le_antisymm ?_ ?_ <;> omega) | omega) | assumption | decide | (rw [show Int32.toInt 0 = 0 from rfl]; omega)) (by first | with_reducible assumption | assumption | omega | decide | (rw [show Int32.toInt 0 = 0 from rfl]; omega))) S gX3_passStop_X5_advance rfl hdV_X5_advance ⟨Nat.le_of_ble_eq_true rfl, Nat.le_of_ble_eq_true rfl⟩ ⟨Nat.le_of_ble_eq_true rfl, Nat.le_of_ble_eq_true rfl⟩ hK hT hS hA hP hD rfl rfl [1, 2] rfl (by decide) rfl hl.1 rfl (Nat.le_of_ble_eq_true rfl) dX3_passStop_32) hP hD hS hA [1, 2] [0] rfl rfl (by decide) (by decide) (fun w_4 H locs hw_5 hP hD hS => ?_)
    obtain ⟨ts2_6, ta2_7, tb2_8, tv2_9, hf_10, hf_11, hf_12, rfl⟩ := hw_5
    have hP : va_P D vwCl [(rd, .inr (3, [.ref tp, .ref ct, .int fn, .int fpl])), (tp, .inr (5, [.ref by_, .int tz, .int ts2_6, .int ta2_7, .int tb2_8, .int tv2_9])), (by_, .inl (cI, 400, .inl f))] H := hP
    have hD : va_D A [(rd, .inr (3, [.ref tp, .ref ct, .int fn, .int fpl])), (tp, .inr (5, [.ref by_, .int tz, .int ts2_6, .int ta2_7, .int tb2_8, .int tv2_9])), (by_, .inl (cI, 400, .inl f))] := hD
    refine lv_iconst (v := (1)) S.1 S.2.1 dX3_passStop_35 (by decide) ?_
    exact b_zret S.1 S.2.1 X.2.1 X.2.2.1 rfl hP hD hS (Or.inl ⟨fn, fpl, ts2_6, ta2_7, tb2_8, tv2_9, (by first | with_reducible assumption | (and_intros <;> first | with_reducible assumption | (intros; refine Int.le_antisymm ?_ ?_ <;> omega) | omega) | assumption | decide | (rw [show Int32.toInt 0 = 0 from rfl]; omega)), (by first | with_reducible assumption | (and_intros <;> first | with_reducible assumption | (intros; refine Int.le_antisymm ?_ ?_ <;> omega) | omega) | assumption | decide | (rw [show Int32.toInt 0 = 0 from rfl]; omega)), (by first | with_reducible assumption | assumption | omega | decide | (rw [show Int32.toInt 0 = 0 from rfl]; omega)), (tok_k (by assumption) (by assumption)), rfl, rfl⟩) dX3_passStop_36
  · rw [eq2 (a := ts) (b := 3) (A := ts.toInt) (B := 3) rfl rfl] at c_2
    refine lv_aload_n S.1 S.2.1 dX3_passStop_22 rfl (lv_at hl 0 rfl) ?_
    refine lv_iconst (v := (1)) S.1 S.2.1 dX3_passStop_23 (by decide) ?_
    refine b_ai (wr := [(by_, .inl (cI, 400, .inl f))]) (b_runV (q0 := 0) (ci := 3) (As := [.int 1]) (s_X3_wrong l D cI cZ cC cS sq H.size rd tp (1) ct fn fpl by_ tz ts ta tb tv) S gX3_passStop_X3_wrong rfl hdV_X3_wrong ⟨Nat.le_of_ble_eq_true rfl, Nat.le_of_ble_eq_true rfl⟩ ⟨Nat.le_of_ble_eq_true rfl, Nat.le_of_ble_eq_true rfl⟩ hK hT hS hA hP hD rfl rfl [0, 1] rfl (by decide) rfl hl.1 rfl (Nat.le_of_ble_eq_true rfl) dX3_passStop_24) hP hD hS hA [0, 1] [2] rfl rfl (by decide) (by decide) (fun r_13 w_14 H locs hw_15 hP hD hS => ?_)
    obtain ⟨rfl, rfl⟩ := hw_15
    have hP : va_P D vwCl [(by_, .inl (cI, 400, .inl f)), (rd, .inr (3, [.ref tp, .ref ct, .int 1, .int ta])), (tp, .inr (5, [.ref by_, .int tz, .int ts, .int ta, .int tb, .int tv]))] H := hP
    have hD : va_D A [(by_, .inl (cI, 400, .inl f)), (rd, .inr (3, [.ref tp, .ref ct, .int 1, .int ta])), (tp, .inr (5, [.ref by_, .int tz, .int ts, .int ta, .int tb, .int tv]))] := hD
    have hP := hP.sub (ws' := [(rd, .inr (3, [.ref tp, .ref ct, .int 1, .int ta])), (tp, .inr (5, [.ref by_, .int tz, .int ts, .int ta, .int tb, .int tv])), (by_, .inl (cI, 400, .inl f))]) [1, 2, 0] rfl
    have hD := hD.sub (ws' := [(rd, .inr (3, [.ref tp, .ref ct, .int 1, .int ta])), (tp, .inr (5, [.ref by_, .int tz, .int ts, .int ta, .int tb, .int tv])), (by_, .inl (cI, 400, .inl f))]) [1, 2, 0] (by decide) rfl
    have lq1 : Int32.toInt (1) = 1 := by decide
    exact b_zret S.1 S.2.1 X.2.1 X.2.2.1 rfl hP hD hS (Or.inr (⟨(1), ta, ts, ta, tb, tv, (by first | with_reducible assumption | (and_intros <;> first | with_reducible assumption | (intros; refine Int.le_antisymm ?_ ?_ <;> omega) | omega) | assumption | decide | (rw [show Int32.toInt 0 = 0 from rfl]; omega)), (by first | with_reducible assumption | (and_intros <;> first | with_reducible assumption | (intros; refine Int.le_antisymm ?_ ?_ <;> omega) | omega) | assumption | decide | (rw [show Int32.toInt 0 = 0 from rfl]; omega)), (tok_nk (by assumption) (by assumption)), ⟨by decide, tok_a (by assumption)⟩, rfl, rfl⟩)) dX3_passStop_27
set_option maxHeartbeats 4000000 in
set_option maxRecDepth 100000 in
theorem s_X3_readNumber (l : Launch) (D : va_G) (cI cZ cC cS : ClassId) (sq : Nat → Nat) (sz : Nat) (rd : Nat) (tp : Nat) (by_ : Nat) (bo_ : Int32) (ct : Nat) (fn : Int32) (fpl : Int32) (tz : Int32) (ts : Int32) (ta : Int32) (tb : Int32) (tv : Int32) (f : Nat → Int32) (a0 : Int) (hrg_f : rng f 400 (0) (255)) (hz : 0 ≤ tz.toInt ∧ tz.toInt ≤ 400) (ht1 : 0 ≤ ta.toInt ∧ ta.toInt ≤ tb.toInt ∧ tb.toInt ≤ tz.toInt) (ht2 : ts.toInt = 2 → 0 ≤ tv.toInt ∧ tv.toInt ≤ 999) (ht3 : tok (tx f tz.toInt) a0 ts.toInt ta.toInt tb.toInt tv.toInt) : mI l yX3_readNumber wsX3_readNumber 2 80 D (tyW cI cZ cC cS) sq [(rd, .inr (3, [.ref tp, .ref ct, .int fn, .int fpl])), (tp, .inr (5, [.ref by_, .int tz, .int ts, .int ta, .int tb, .int tv])), (by_, .inl (cI, 400, .inl f))] sz [.ref rd, .int bo_] (fun r w => (∃ (fn2 : Int32), ∃ (fpl2 : Int32), ∃ (ts2 : Int32), ∃ (ta2 : Int32), ∃ (tb2 : Int32), ∃ (tv2 : Int32), (0 ≤ ta2.toInt ∧ ta2.toInt ≤ tb2.toInt ∧ tb2.toInt ≤ tz.toInt) ∧ (ts2.toInt = 2 → 0 ≤ tv2.toInt ∧ tv2.toInt ≤ 999) ∧ (nF (tx f tz.toInt) bo_.toInt a0 = fn2.toInt ∧ ¬ fn2.toInt = 0 ∧ fpl2.toInt = a0) ∧ r = -1 ∧ w = [(rd, .inr (3, [.ref tp, .ref ct, .int fn2, .int fpl2])), (tp, .inr (5, [.ref by_, .int tz, .int ts2, .int ta2, .int tb2, .int tv2])), (by_, .inl (cI, 400, .inl f))]) ∨ (∃ (fn2 : Int32), ∃ (fpl2 : Int32), ∃ (ts2 : Int32), ∃ (ta2 : Int32), ∃ (tb2 : Int32), ∃ (tv2 : Int32), (0 ≤ ta2.toInt ∧ ta2.toInt ≤ tb2.toInt ∧ tb2.toInt ≤ tz.toInt) ∧ (ts2.toInt = 2 → 0 ≤ tv2.toInt ∧ tv2.toInt ≤ 999) ∧ (tok (tx f tz.toInt) (nx (tx f tz.toInt) a0) ts2.toInt ta2.toInt tb2.toInt tv2.toInt) ∧ (0 ≤ r.toInt ∧ r.toInt < bo_.toInt ∧ r.toInt ≤ 999 ∧ r.toInt = tV (tx f tz.toInt) a0) ∧ (nF (tx f tz.toInt) bo_.toInt a0 = 0) ∧ w = [(rd, .inr (3, [.ref tp, .ref ct, .int fn2, .int fpl2])), (tp, .inr (5, [.ref by_, .int tz, .int ts2, .int ta2, .int tb2, .int tv2])), (by_, .inl (cI, 400, .inl f))])) := by
  refine b_metI (cc := cX3_readNumber) (maxL := 3) (ret := (some .int)) (by decide) rfl (Nat.le_of_ble_eq_true rfl) ?_
  intro p e s m below meth c ls A H X hsz hP hK hT hD hA hS hl
  have S : CallFix p m c cX3_readNumber 3 s ([.ref rd, .int bo_] : List Value).toArray wsX3_readNumber RX3 := X.1
  have hl : lv_has ls 3 [(0, .ref rd), (1, .int bo_)] := hl
  have iX3 := jX3_readNumber_X3
  have iX5 := jX3_readNumber_X5
  refine lv_aload_n S.1 S.2.1 dX3_readNumber_0 rfl (lv_at hl 0 rfl) ?_
  refine b_get (v := .ref tp) S iX3 hK hP 0 rfl rfl 0 (by decide) (by decide +kernel) rfl dX3_readNumber_1 ?_
  refine b_get (v := .int ts) S iX5 hK hP 1 rfl rfl 2 (by decide) (by decide +kernel) rfl dX3_readNumber_4 ?_
  refine lv_iconst (v := (2)) S.1 S.2.1 dX3_readNumber_7 (by decide) ?_
  refine lv_icmp_eq (tgt := 19) S.1 S.2.1 dX3_readNumber_8 (by decide) (fun c_1 => ?_) (fun c_1 => ?_)
  · rw [eq2 (a := ts) (b := 2) (A := ts.toInt) (B := 2) rfl rfl] at c_1
    refine lv_aload_n S.1 S.2.1 dX3_readNumber_19 rfl (lv_at hl 0 rfl) ?_
    refine b_get (v := .ref tp) S iX3 hK hP 0 rfl rfl 0 (by decide) (by decide +kernel) rfl dX3_readNumber_20 ?_
    refine b_get (v := .int tv) S iX5 hK hP 1 rfl rfl 5 (by decide) (by decide +kernel) rfl dX3_readNumber_23 ?_
    refine lv_istore_n (lv' := [(2, .int tv), (0, .ref rd), (1, .int bo_)]) S.1 S.2.1 dX3_readNumber_26 rfl hl (by decide) rfl (fun ls hl => ?_)
    refine lv_iload_n S.1 S.2.1 dX3_readNumber_27 rfl (lv_at hl 0 rfl) ?_
    refine lv_iload_n S.1 S.2.1 dX3_readNumber_28 rfl (lv_at hl 2 rfl) ?_
    refine lv_icmp_lt (tgt := 40) S.1 S.2.1 dX3_readNumber_29 (by decide) (fun c_2 => ?_) (fun c_2 => ?_)
    · rw [lt2 (a := tv) (b := bo_) (A := tv.toInt) (B := bo_.toInt) rfl rfl] at c_2
      refine lv_aload_n S.1 S.2.1 dX3_readNumber_40 rfl (lv_at hl 1 rfl) ?_
      refine b_get (v := .ref tp) S iX3 hK hP 0 rfl rfl 0 (by decide) (by decide +kernel) rfl dX3_readNumber_41 ?_
      refine b_av (wr := [(rd, .inr (3, [.ref tp, .ref ct, .int fn, .int fpl]))]) (b_runV (q0 := 1) (ci := 5) (As := []) (s_X5_advance l D cI cZ cC cS sq H.size tp by_ tz ts ta tb tv f _ (by first | with_reducible assumption | assumption | omega | decide | (rw [show Int32.toInt 0 = 0 from rfl]; omega)) (by first | with_reducible assumption | (and_intros <;> first | with_reducible assumption | (intros; refine Int.le_antisymm ?_ ?_ <;> omega) | omega) | assumption | decide | (rw [show Int32.toInt 0 = 0 from rfl]; omega)) (by first | with_reducible assumption | (and_intros <;> first | with_reducible assumption | (intros; refine Int.le_antisymm ?_ ?_ <;> omega) | omega) | assumption | decide | (rw [show Int32.toInt 0 = 0 from rfl]; omega)) (by first | with_reducible assumption | assumption | omega | decide | (rw [show Int32.toInt 0 = 0 from rfl]; omega))) S gX3_readNumber_X5_advance rfl hdV_X5_advance ⟨Nat.le_of_ble_eq_true rfl, Nat.le_of_ble_eq_true rfl⟩ ⟨Nat.le_of_ble_eq_true rfl, Nat.le_of_ble_eq_true rfl⟩ hK hT hS hA hP hD rfl rfl [1, 2] rfl (by decide) rfl hl.1 rfl (Nat.le_of_ble_eq_true rfl) dX3_readNumber_44) hP hD hS hA [1, 2] [0] rfl rfl (by decide) (by decide) (fun w_4 H locs hw_5 hP hD hS => ?_)
      obtain ⟨ts2_6, ta2_7, tb2_8, tv2_9, hf_10, hf_11, hf_12, rfl⟩ := hw_5
      have hP : va_P D vwCl [(rd, .inr (3, [.ref tp, .ref ct, .int fn, .int fpl])), (tp, .inr (5, [.ref by_, .int tz, .int ts2_6, .int ta2_7, .int tb2_8, .int tv2_9])), (by_, .inl (cI, 400, .inl f))] H := hP
      have hD : va_D A [(rd, .inr (3, [.ref tp, .ref ct, .int fn, .int fpl])), (tp, .inr (5, [.ref by_, .int tz, .int ts2_6, .int ta2_7, .int tb2_8, .int tv2_9])), (by_, .inl (cI, 400, .inl f))] := hD
      refine lv_iload_n S.1 S.2.1 dX3_readNumber_47 rfl (lv_at hl 0 rfl) ?_
      exact b_iret S.1 S.2.1 X.2.1 X.2.2.1 hP hD hS (Or.inr (⟨fn, fpl, ts2_6, ta2_7, tb2_8, tv2_9, (by first | with_reducible assumption | (and_intros <;> first | with_reducible assumption | (intros; refine Int.le_antisymm ?_ ?_ <;> omega) | omega) | assumption | decide | (rw [show Int32.toInt 0 = 0 from rfl]; omega)), (by first | with_reducible assumption | (and_intros <;> first | with_reducible assumption | (intros; refine Int.le_antisymm ?_ ?_ <;> omega) | omega) | assumption | decide | (rw [show Int32.toInt 0 = 0 from rfl]; omega)), (by first | with_reducible assumption | assumption | omega | decide | (rw [show Int32.toInt 0 = 0 from rfl]; omega)), (by have z := tok_v ht3 (by assumption); omega), (nF_0 (tok_k ht3 (by assumption)) (by have z := tok_v ht3 (by assumption); omega)), rfl⟩)) dX3_readNumber_48
    · rw [lt2 (a := tv) (b := bo_) (A := tv.toInt) (B := bo_.toInt) rfl rfl] at c_2
      refine lv_aload_n S.1 S.2.1 dX3_readNumber_32 rfl (lv_at hl 1 rfl) ?_
      refine lv_iconst (v := (2)) S.1 S.2.1 dX3_readNumber_33 (by decide) ?_
      refine b_ai (wr := [(by_, .inl (cI, 400, .inl f))]) (b_runV (q0 := 0) (ci := 3) (As := [.int 2]) (s_X3_wrong l D cI cZ cC cS sq H.size rd tp (2) ct fn fpl by_ tz ts ta tb tv) S gX3_readNumber_X3_wrong rfl hdV_X3_wrong ⟨Nat.le_of_ble_eq_true rfl, Nat.le_of_ble_eq_true rfl⟩ ⟨Nat.le_of_ble_eq_true rfl, Nat.le_of_ble_eq_true rfl⟩ hK hT hS hA hP hD rfl rfl [0, 1] rfl (by decide) rfl hl.1 rfl (Nat.le_of_ble_eq_true rfl) dX3_readNumber_34) hP hD hS hA [0, 1] [2] rfl rfl (by decide) (by decide) (fun r_13 w_14 H locs hw_15 hP hD hS => ?_)
      obtain ⟨rfl, rfl⟩ := hw_15
      have hP : va_P D vwCl [(by_, .inl (cI, 400, .inl f)), (rd, .inr (3, [.ref tp, .ref ct, .int 2, .int ta])), (tp, .inr (5, [.ref by_, .int tz, .int ts, .int ta, .int tb, .int tv]))] H := hP
      have hD : va_D A [(by_, .inl (cI, 400, .inl f)), (rd, .inr (3, [.ref tp, .ref ct, .int 2, .int ta])), (tp, .inr (5, [.ref by_, .int tz, .int ts, .int ta, .int tb, .int tv]))] := hD
      refine lv_pop S.1 S.2.1 dX3_readNumber_37 rfl ?_
      refine lv_iconst (v := (-1)) S.1 S.2.1 dX3_readNumber_38 (by decide) ?_
      have hP := hP.sub (ws' := [(rd, .inr (3, [.ref tp, .ref ct, .int 2, .int ta])), (tp, .inr (5, [.ref by_, .int tz, .int ts, .int ta, .int tb, .int tv])), (by_, .inl (cI, 400, .inl f))]) [1, 2, 0] rfl
      have hD := hD.sub (ws' := [(rd, .inr (3, [.ref tp, .ref ct, .int 2, .int ta])), (tp, .inr (5, [.ref by_, .int tz, .int ts, .int ta, .int tb, .int tv])), (by_, .inl (cI, 400, .inl f))]) [1, 2, 0] (by decide) rfl
      have lq2 : Int32.toInt (2) = 2 := by decide
      exact b_iret S.1 S.2.1 X.2.1 X.2.2.1 hP hD hS (Or.inl ⟨(2), ta, ts, ta, tb, tv, (by first | with_reducible assumption | (and_intros <;> first | with_reducible assumption | (intros; refine Int.le_antisymm ?_ ?_ <;> omega) | omega) | assumption | decide | (rw [show Int32.toInt 0 = 0 from rfl]; omega)), (by first | with_reducible assumption | (and_intros <;> first | with_reducible assumption | (intros; refine Int.le_antisymm ?_ ?_ <;> omega) | omega) | assumption | decide | (rw [show Int32.toInt 0 = 0 from rfl]; omega)), (by first | exact ⟨nF_1 (tok_nk ht3 (by assumption)), by decide, tok_a ht3⟩ | exact ⟨nF_2 (tok_k ht3 (by assumption)) (by have z := tok_v ht3 (by assumption); omega), by decide, tok_a ht3⟩), rfl, rfl⟩) dX3_readNumber_39
  · rw [eq2 (a := ts) (b := 2) (A := ts.toInt) (B := 2) rfl rfl] at c_1
    refine lv_aload_n S.1 S.2.1 dX3_readNumber_11 rfl (lv_at hl 0 rfl) ?_
    refine lv_iconst (v := (1)) S.1 S.2.1 dX3_readNumber_12 (by decide) ?_
    refine b_ai (wr := [(by_, .inl (cI, 400, .inl f))]) (b_runV (q0 := 0) (ci := 3) (As := [.int 1]) (s_X3_wrong l D cI cZ cC cS sq H.size rd tp (1) ct fn fpl by_ tz ts ta tb tv) S gX3_readNumber_X3_wrong rfl hdV_X3_wrong ⟨Nat.le_of_ble_eq_true rfl, Nat.le_of_ble_eq_true rfl⟩ ⟨Nat.le_of_ble_eq_true rfl, Nat.le_of_ble_eq_true rfl⟩ hK hT hS hA hP hD rfl rfl [0, 1] rfl (by decide) rfl hl.1 rfl (Nat.le_of_ble_eq_true rfl) dX3_readNumber_13) hP hD hS hA [0, 1] [2] rfl rfl (by decide) (by decide) (fun r_16 w_17 H locs hw_18 hP hD hS => ?_)
    obtain ⟨rfl, rfl⟩ := hw_18
    have hP : va_P D vwCl [(by_, .inl (cI, 400, .inl f)), (rd, .inr (3, [.ref tp, .ref ct, .int 1, .int ta])), (tp, .inr (5, [.ref by_, .int tz, .int ts, .int ta, .int tb, .int tv]))] H := hP
    have hD : va_D A [(by_, .inl (cI, 400, .inl f)), (rd, .inr (3, [.ref tp, .ref ct, .int 1, .int ta])), (tp, .inr (5, [.ref by_, .int tz, .int ts, .int ta, .int tb, .int tv]))] := hD
    refine lv_pop S.1 S.2.1 dX3_readNumber_16 rfl ?_
    refine lv_iconst (v := (-1)) S.1 S.2.1 dX3_readNumber_17 (by decide) ?_
    have hP := hP.sub (ws' := [(rd, .inr (3, [.ref tp, .ref ct, .int 1, .int ta])), (tp, .inr (5, [.ref by_, .int tz, .int ts, .int ta, .int tb, .int tv])), (by_, .inl (cI, 400, .inl f))]) [1, 2, 0] rfl
    have hD := hD.sub (ws' := [(rd, .inr (3, [.ref tp, .ref ct, .int 1, .int ta])), (tp, .inr (5, [.ref by_, .int tz, .int ts, .int ta, .int tb, .int tv])), (by_, .inl (cI, 400, .inl f))]) [1, 2, 0] (by decide) rfl
    have lq1 : Int32.toInt (1) = 1 := by decide
    exact b_iret S.1 S.2.1 X.2.1 X.2.2.1 hP hD hS (Or.inl ⟨(1), ta, ts, ta, tb, tv, (by first | with_reducible assumption | (and_intros <;> first | with_reducible assumption | (intros; refine Int.le_antisymm ?_ ?_ <;> omega) | omega) | assumption | decide | (rw [show Int32.toInt 0 = 0 from rfl]; omega)), (by first | with_reducible assumption | (and_intros <;> first | with_reducible assumption | (intros; refine Int.le_antisymm ?_ ?_ <;> omega) | omega) | assumption | decide | (rw [show Int32.toInt 0 = 0 from rfl]; omega)), (by first | exact ⟨nF_1 (tok_nk ht3 (by assumption)), by decide, tok_a ht3⟩ | exact ⟨nF_2 (tok_k ht3 (by assumption)) (by have z := tok_v ht3 (by assumption); omega), by decide, tok_a ht3⟩), rfl, rfl⟩) dX3_readNumber_18
set_option maxHeartbeats 4000000 in
set_option maxRecDepth 100000 in
theorem s_X3_readOpenCell (l : Launch) (D : va_G) (cI cZ cC cS : ClassId) (sq : Nat → Nat) (sz : Nat) (rd : Nat) (tp : Nat) (by_ : Nat) (ct : Nat) (aCells : Nat) (fn : Int32) (fpl : Int32) (tz : Int32) (ts : Int32) (ta : Int32) (tb : Int32) (tv : Int32) (f : Nat → Int32) (cw : Int32) (ch : Int32) (cp : Int32) (aPrices : Nat) (aFree : Nat) (aPlaces : Nat) (aHomes : Nat) (aManners : Nat) (aGone : Nat) (aPaid : Nat) (aBlinks : Nat) (fc : Nat → Int32) (a0 : Int) (hrg_f : rng f 400 (0) (255)) (hrg_fc : rng fc 80 (-1) (8)) (hz : 0 ≤ tz.toInt ∧ tz.toInt ≤ 400) (ht1 : 0 ≤ ta.toInt ∧ ta.toInt ≤ tb.toInt ∧ tb.toInt ≤ tz.toInt) (ht2 : ts.toInt = 2 → 0 ≤ tv.toInt ∧ tv.toInt ≤ 999) (ht3 : tok (tx f tz.toInt) a0 ts.toInt ta.toInt tb.toInt tv.toInt) (hw : 0 ≤ cw.toInt ∧ cw.toInt ≤ 10) (hh : 0 ≤ ch.toInt ∧ ch.toInt ≤ 8) (hcl : CLc (tx f tz.toInt) cw.toInt ch.toInt fc) : mI l yX3_readOpenCell wsX3_readOpenCell 3 120 D (tyW cI cZ cC cS) sq [(rd, .inr (3, [.ref tp, .ref ct, .int fn, .int fpl])), (tp, .inr (5, [.ref by_, .int tz, .int ts, .int ta, .int tb, .int tv])), (by_, .inl (cI, 400, .inl f)), (ct, .inr (1, [.int cw, .int ch, .int cp, .ref aCells, .ref aPrices, .ref aFree, .ref aPlaces, .ref aHomes, .ref aManners, .ref aGone, .ref aPaid, .ref aBlinks])), (aCells, .inl (cI, 80, .inl fc))] sz [.ref rd] (fun r w => (∃ (fn2 : Int32), ∃ (fpl2 : Int32), ∃ (ts2 : Int32), ∃ (ta2 : Int32), ∃ (tb2 : Int32), ∃ (tv2 : Int32), (0 ≤ ta2.toInt ∧ ta2.toInt ≤ tb2.toInt ∧ tb2.toInt ≤ tz.toInt) ∧ (ts2.toInt = 2 → 0 ≤ tv2.toInt ∧ tv2.toInt ≤ 999) ∧ (oF (tx f tz.toInt) cw.toInt ch.toInt a0 = fn2.toInt ∧ oP (tx f tz.toInt) cw.toInt a0 = fpl2.toInt ∧ ¬ fn2.toInt = 0) ∧ r = -1 ∧ w = [(rd, .inr (3, [.ref tp, .ref ct, .int fn2, .int fpl2])), (tp, .inr (5, [.ref by_, .int tz, .int ts2, .int ta2, .int tb2, .int tv2])), (by_, .inl (cI, 400, .inl f)), (ct, .inr (1, [.int cw, .int ch, .int cp, .ref aCells, .ref aPrices, .ref aFree, .ref aPlaces, .ref aHomes, .ref aManners, .ref aGone, .ref aPaid, .ref aBlinks])), (aCells, .inl (cI, 80, .inl fc))]) ∨ (∃ (fn2 : Int32), ∃ (fpl2 : Int32), ∃ (ts2 : Int32), ∃ (ta2 : Int32), ∃ (tb2 : Int32), ∃ (tv2 : Int32), (0 ≤ ta2.toInt ∧ ta2.toInt ≤ tb2.toInt ∧ tb2.toInt ≤ tz.toInt) ∧ (ts2.toInt = 2 → 0 ≤ tv2.toInt ∧ tv2.toInt ≤ 999) ∧ (tok (tx f tz.toInt) (nx (tx f tz.toInt) (nx (tx f tz.toInt) a0)) ts2.toInt ta2.toInt tb2.toInt tv2.toInt) ∧ (0 ≤ r.toInt ∧ r.toInt < 80 ∧ r.toInt = tV (tx f tz.toInt) a0 + 10 * tV (tx f tz.toInt) (nx (tx f tz.toInt) a0)) ∧ (oF (tx f tz.toInt) cw.toInt ch.toInt a0 = 0) ∧ w = [(rd, .inr (3, [.ref tp, .ref ct, .int fn2, .int fpl2])), (tp, .inr (5, [.ref by_, .int tz, .int ts2, .int ta2, .int tb2, .int tv2])), (by_, .inl (cI, 400, .inl f)), (ct, .inr (1, [.int cw, .int ch, .int cp, .ref aCells, .ref aPrices, .ref aFree, .ref aPlaces, .ref aHomes, .ref aManners, .ref aGone, .ref aPaid, .ref aBlinks])), (aCells, .inl (cI, 80, .inl fc))])) := by
  refine b_metI (cc := cX3_readOpenCell) (maxL := 3) (ret := (some .int)) (by decide) rfl (Nat.le_of_ble_eq_true rfl) ?_
  intro p e s m below meth c ls A H X hsz hP hK hT hD hA hS hl
  have S : CallFix p m c cX3_readOpenCell 3 s ([.ref rd] : List Value).toArray wsX3_readOpenCell RX3 := X.1
  have hl : lv_has ls 3 [(0, .ref rd)] := hl
  have iX1 := jX3_readOpenCell_X1
  have iX3 := jX3_readOpenCell_X3
  have iX5 := jX3_readOpenCell_X5
  refine lv_aload_n S.1 S.2.1 dX3_readOpenCell_0 rfl (lv_at hl 0 rfl) ?_
  refine lv_aload_n S.1 S.2.1 dX3_readOpenCell_1 rfl (lv_at hl 0 rfl) ?_
  refine b_get (v := .ref ct) S iX3 hK hP 0 rfl rfl 1 (by decide) (by decide +kernel) rfl dX3_readOpenCell_2 ?_
  refine b_get (v := .int cw) S iX1 hK hP 3 rfl rfl 0 (by decide) (by decide +kernel) rfl dX3_readOpenCell_5 ?_
  refine b_ai (wr := [(ct, .inr (1, [.int cw, .int ch, .int cp, .ref aCells, .ref aPrices, .ref aFree, .ref aPlaces, .ref aHomes, .ref aManners, .ref aGone, .ref aPaid, .ref aBlinks])), (aCells, .inl (cI, 80, .inl fc))]) (b_runV (q0 := 0) (ci := 3) (As := [.int cw]) (s_X3_readNumber l D cI cZ cC cS sq H.size rd tp by_ cw ct fn fpl tz ts ta tb tv f _ (by first | with_reducible assumption | assumption | omega | decide | (rw [show Int32.toInt 0 = 0 from rfl]; omega)) (by first | with_reducible assumption | (and_intros <;> first | with_reducible assumption | (intros; refine Int.le_antisymm ?_ ?_ <;> omega) | omega) | assumption | decide | (rw [show Int32.toInt 0 = 0 from rfl]; omega)) (by first | with_reducible assumption | (and_intros <;> first | with_reducible assumption | (intros; refine Int.le_antisymm ?_ ?_ <;> omega) | omega) | assumption | decide | (rw [show Int32.toInt 0 = 0 from rfl]; omega)) (by first | with_reducible assumption | (and_intros <;> first | with_reducible assumption | (intros; refine Int.le_antisymm ?_ ?_ <;> omega) | omega) | assumption | decide | (rw [show Int32.toInt 0 = 0 from rfl]; omega)) (by first | with_reducible assumption | assumption | omega | decide | (rw [show Int32.toInt 0 = 0 from rfl]; omega))) S gX3_readOpenCell_X3_readNumber rfl hdV_X3_readNumber ⟨Nat.le_of_ble_eq_true rfl, Nat.le_of_ble_eq_true rfl⟩ ⟨Nat.le_of_ble_eq_true rfl, Nat.le_of_ble_eq_true rfl⟩ hK hT hS hA hP hD rfl rfl [0, 1, 2] rfl (by decide) rfl hl.1 rfl (Nat.le_of_ble_eq_true rfl) dX3_readOpenCell_8) hP hD hS hA [0, 1, 2] [3, 4] rfl rfl (by decide) (by decide) (fun r_1 w_2 H locs hw_3 hP hD hS => ?_)
  rcases hw_3 with ⟨fn2_4, fpl2_5, ts2_6, ta2_7, tb2_8, tv2_9, hf_10, hf_11, hf_12, rfl, rfl⟩ | ⟨fn2_13, fpl2_14, ts2_15, ta2_16, tb2_17, tv2_18, hf_19, hf_20, hf_21, hf_22, hf_23, rfl⟩
  · have hP : va_P D vwCl [(ct, .inr (1, [.int cw, .int ch, .int cp, .ref aCells, .ref aPrices, .ref aFree, .ref aPlaces, .ref aHomes, .ref aManners, .ref aGone, .ref aPaid, .ref aBlinks])), (aCells, .inl (cI, 80, .inl fc)), (rd, .inr (3, [.ref tp, .ref ct, .int fn2_4, .int fpl2_5])), (tp, .inr (5, [.ref by_, .int tz, .int ts2_6, .int ta2_7, .int tb2_8, .int tv2_9])), (by_, .inl (cI, 400, .inl f))] H := hP
    have hD : va_D A [(ct, .inr (1, [.int cw, .int ch, .int cp, .ref aCells, .ref aPrices, .ref aFree, .ref aPlaces, .ref aHomes, .ref aManners, .ref aGone, .ref aPaid, .ref aBlinks])), (aCells, .inl (cI, 80, .inl fc)), (rd, .inr (3, [.ref tp, .ref ct, .int fn2_4, .int fpl2_5])), (tp, .inr (5, [.ref by_, .int tz, .int ts2_6, .int ta2_7, .int tb2_8, .int tv2_9])), (by_, .inl (cI, 400, .inl f))] := hD
    refine lv_istore_n (lv' := [(1, .int (-1)), (0, .ref rd)]) S.1 S.2.1 dX3_readOpenCell_11 rfl hl (by decide) rfl (fun ls hl => ?_)
    refine lv_iload_n S.1 S.2.1 dX3_readOpenCell_12 rfl (lv_at hl 0 rfl) ?_
    refine lv_iconst (v := (-1)) S.1 S.2.1 dX3_readOpenCell_13 (by decide) ?_
    refine lv_icmp_ne (tgt := 19) S.1 S.2.1 dX3_readOpenCell_14 (by decide) (fun c_24 => absurd c_24 (by decide)) (fun c_24 => ?_)
    refine lv_iconst (v := (-1)) S.1 S.2.1 dX3_readOpenCell_17 (by decide) ?_
    have hP := hP.sub (ws' := [(rd, .inr (3, [.ref tp, .ref ct, .int fn2_4, .int fpl2_5])), (tp, .inr (5, [.ref by_, .int tz, .int ts2_6, .int ta2_7, .int tb2_8, .int tv2_9])), (by_, .inl (cI, 400, .inl f)), (ct, .inr (1, [.int cw, .int ch, .int cp, .ref aCells, .ref aPrices, .ref aFree, .ref aPlaces, .ref aHomes, .ref aManners, .ref aGone, .ref aPaid, .ref aBlinks])), (aCells, .inl (cI, 80, .inl fc))]) [2, 3, 4, 0, 1] rfl
    have hD := hD.sub (ws' := [(rd, .inr (3, [.ref tp, .ref ct, .int fn2_4, .int fpl2_5])), (tp, .inr (5, [.ref by_, .int tz, .int ts2_6, .int ta2_7, .int tb2_8, .int tv2_9])), (by_, .inl (cI, 400, .inl f)), (ct, .inr (1, [.int cw, .int ch, .int cp, .ref aCells, .ref aPrices, .ref aFree, .ref aPlaces, .ref aHomes, .ref aManners, .ref aGone, .ref aPaid, .ref aBlinks])), (aCells, .inl (cI, 80, .inl fc))]) [2, 3, 4, 0, 1] (by decide) rfl
    exact b_iret S.1 S.2.1 X.2.1 X.2.2.1 hP hD hS (Or.inl ⟨fn2_4, fpl2_5, ts2_6, ta2_7, tb2_8, tv2_9, (by first | with_reducible assumption | (and_intros <;> first | with_reducible assumption | (intros; refine Int.le_antisymm ?_ ?_ <;> omega) | omega) | assumption | decide | (rw [show Int32.toInt 0 = 0 from rfl]; omega)), (by first | with_reducible assumption | (and_intros <;> first | with_reducible assumption | (intros; refine Int.le_antisymm ?_ ?_ <;> omega) | omega) | assumption | decide | (rw [show Int32.toInt 0 = 0 from rfl]; omega)), (by first | exact rOC1 (by assumption) | exact rOC2 (by assumption) (by assumption) (by assumption) (by assumption) | exact rOC3 (by assumption) (by assumption) (by assumption) hcl (by assumption) (by assumption) (by first | (refine Int.le_antisymm ?_ ?_ <;> omega) | omega) (by first | (refine Int.le_antisymm ?_ ?_ <;> omega) | omega) (by first | (refine Int.le_antisymm ?_ ?_ <;> omega) | omega) rfl | exact (rOC4 (by assumption) (by assumption) (by assumption) (by assumption) (by assumption) (by first | (refine Int.le_antisymm ?_ ?_ <;> omega) | omega) (by first | (refine Int.le_antisymm ?_ ?_ <;> omega) | omega)).elim | (exfalso; omega)), rfl, rfl⟩) dX3_readOpenCell_18
  · have hP : va_P D vwCl [(ct, .inr (1, [.int cw, .int ch, .int cp, .ref aCells, .ref aPrices, .ref aFree, .ref aPlaces, .ref aHomes, .ref aManners, .ref aGone, .ref aPaid, .ref aBlinks])), (aCells, .inl (cI, 80, .inl fc)), (rd, .inr (3, [.ref tp, .ref ct, .int fn2_13, .int fpl2_14])), (tp, .inr (5, [.ref by_, .int tz, .int ts2_15, .int ta2_16, .int tb2_17, .int tv2_18])), (by_, .inl (cI, 400, .inl f))] H := hP
    have hD : va_D A [(ct, .inr (1, [.int cw, .int ch, .int cp, .ref aCells, .ref aPrices, .ref aFree, .ref aPlaces, .ref aHomes, .ref aManners, .ref aGone, .ref aPaid, .ref aBlinks])), (aCells, .inl (cI, 80, .inl fc)), (rd, .inr (3, [.ref tp, .ref ct, .int fn2_13, .int fpl2_14])), (tp, .inr (5, [.ref by_, .int tz, .int ts2_15, .int ta2_16, .int tb2_17, .int tv2_18])), (by_, .inl (cI, 400, .inl f))] := hD
    refine lv_istore_n (lv' := [(1, .int r_1), (0, .ref rd)]) S.1 S.2.1 dX3_readOpenCell_11 rfl hl (by decide) rfl (fun ls hl => ?_)
    refine lv_iload_n S.1 S.2.1 dX3_readOpenCell_12 rfl (lv_at hl 0 rfl) ?_
    refine lv_iconst (v := (-1)) S.1 S.2.1 dX3_readOpenCell_13 (by decide) ?_
    refine lv_icmp_ne (tgt := 19) S.1 S.2.1 dX3_readOpenCell_14 (by decide) (fun c_25 => ?_) (fun c_25 => ?_)
    · rw [eq2 (a := r_1) (b := (-1)) (A := r_1.toInt) (B := -1) rfl rfl] at c_25
      refine lv_aload_n S.1 S.2.1 dX3_readOpenCell_19 rfl (lv_at hl 1 rfl) ?_
      refine b_get (v := .ref tp) S iX3 hK hP 2 rfl rfl 0 (by decide) (by decide +kernel) rfl dX3_readOpenCell_20 ?_
      refine b_get (v := .int ts2_15) S iX5 hK hP 3 rfl rfl 2 (by decide) (by decide +kernel) rfl dX3_readOpenCell_23 ?_
      refine lv_iconst (v := (2)) S.1 S.2.1 dX3_readOpenCell_26 (by decide) ?_
      refine lv_icmp_ne (tgt := 60) S.1 S.2.1 dX3_readOpenCell_27 (by decide) (fun c_26 => ?_) (fun c_26 => ?_)
      · rw [eq2 (a := ts2_15) (b := 2) (A := ts2_15.toInt) (B := 2) rfl rfl] at c_26
        refine lv_aload_n S.1 S.2.1 dX3_readOpenCell_60 rfl (lv_at hl 1 rfl) ?_
        refine lv_aload_n S.1 S.2.1 dX3_readOpenCell_61 rfl (lv_at hl 1 rfl) ?_
        refine b_get (v := .ref ct) S iX3 hK hP 2 rfl rfl 1 (by decide) (by decide +kernel) rfl dX3_readOpenCell_62 ?_
        refine b_get (v := .int ch) S iX1 hK hP 0 rfl rfl 1 (by decide) (by decide +kernel) rfl dX3_readOpenCell_65 ?_
        refine b_ai (wr := [(ct, .inr (1, [.int cw, .int ch, .int cp, .ref aCells, .ref aPrices, .ref aFree, .ref aPlaces, .ref aHomes, .ref aManners, .ref aGone, .ref aPaid, .ref aBlinks])), (aCells, .inl (cI, 80, .inl fc))]) (b_runV (q0 := 2) (ci := 3) (As := [.int ch]) (s_X3_readNumber l D cI cZ cC cS sq H.size rd tp by_ ch ct fn2_13 fpl2_14 tz ts2_15 ta2_16 tb2_17 tv2_18 f _ (by first | with_reducible assumption | assumption | omega | decide | (rw [show Int32.toInt 0 = 0 from rfl]; omega)) (by first | with_reducible assumption | (and_intros <;> first | with_reducible assumption | (intros; refine Int.le_antisymm ?_ ?_ <;> omega) | omega) | assumption | decide | (rw [show Int32.toInt 0 = 0 from rfl]; omega)) (by first | with_reducible assumption | (and_intros <;> first | with_reducible assumption | (intros; refine Int.le_antisymm ?_ ?_ <;> omega) | omega) | assumption | decide | (rw [show Int32.toInt 0 = 0 from rfl]; omega)) (by first | with_reducible assumption | (and_intros <;> first | with_reducible assumption | (intros; refine Int.le_antisymm ?_ ?_ <;> omega) | omega) | assumption | decide | (rw [show Int32.toInt 0 = 0 from rfl]; omega)) (by first | with_reducible assumption | assumption | omega | decide | (rw [show Int32.toInt 0 = 0 from rfl]; omega))) S gX3_readOpenCell_X3_readNumber rfl hdV_X3_readNumber ⟨Nat.le_of_ble_eq_true rfl, Nat.le_of_ble_eq_true rfl⟩ ⟨Nat.le_of_ble_eq_true rfl, Nat.le_of_ble_eq_true rfl⟩ hK hT hS hA hP hD rfl rfl [2, 3, 4] rfl (by decide) rfl hl.1 rfl (Nat.le_of_ble_eq_true rfl) dX3_readOpenCell_68) hP hD hS hA [2, 3, 4] [0, 1] rfl rfl (by decide) (by decide) (fun r_27 w_28 H locs hw_29 hP hD hS => ?_)
        rcases hw_29 with ⟨fn2_30, fpl2_31, ts2_32, ta2_33, tb2_34, tv2_35, hf_36, hf_37, hf_38, rfl, rfl⟩ | ⟨fn2_39, fpl2_40, ts2_41, ta2_42, tb2_43, tv2_44, hf_45, hf_46, hf_47, hf_48, hf_49, rfl⟩
        · have hP : va_P D vwCl [(ct, .inr (1, [.int cw, .int ch, .int cp, .ref aCells, .ref aPrices, .ref aFree, .ref aPlaces, .ref aHomes, .ref aManners, .ref aGone, .ref aPaid, .ref aBlinks])), (aCells, .inl (cI, 80, .inl fc)), (rd, .inr (3, [.ref tp, .ref ct, .int fn2_30, .int fpl2_31])), (tp, .inr (5, [.ref by_, .int tz, .int ts2_32, .int ta2_33, .int tb2_34, .int tv2_35])), (by_, .inl (cI, 400, .inl f))] H := hP
          have hD : va_D A [(ct, .inr (1, [.int cw, .int ch, .int cp, .ref aCells, .ref aPrices, .ref aFree, .ref aPlaces, .ref aHomes, .ref aManners, .ref aGone, .ref aPaid, .ref aBlinks])), (aCells, .inl (cI, 80, .inl fc)), (rd, .inr (3, [.ref tp, .ref ct, .int fn2_30, .int fpl2_31])), (tp, .inr (5, [.ref by_, .int tz, .int ts2_32, .int ta2_33, .int tb2_34, .int tv2_35])), (by_, .inl (cI, 400, .inl f))] := hD
          refine lv_istore_n (lv' := [(2, .int (-1)), (1, .int r_1), (0, .ref rd)]) S.1 S.2.1 dX3_readOpenCell_71 rfl hl (by decide) rfl (fun ls hl => ?_)
          refine lv_iload_n S.1 S.2.1 dX3_readOpenCell_72 rfl (lv_at hl 0 rfl) ?_
          refine lv_iconst (v := (-1)) S.1 S.2.1 dX3_readOpenCell_73 (by decide) ?_
          refine lv_icmp_ne (tgt := 81) S.1 S.2.1 dX3_readOpenCell_74 (by decide) (fun c_50 => absurd c_50 (by decide)) (fun c_50 => ?_)
          refine lv_iconst (v := (-1)) S.1 S.2.1 dX3_readOpenCell_77 (by decide) ?_
          refine lv_goto (tgt := 87) S.1 S.2.1 dX3_readOpenCell_78 (by decide) ?_
          have hP := hP.sub (ws' := [(rd, .inr (3, [.ref tp, .ref ct, .int fn2_30, .int fpl2_31])), (tp, .inr (5, [.ref by_, .int tz, .int ts2_32, .int ta2_33, .int tb2_34, .int tv2_35])), (by_, .inl (cI, 400, .inl f)), (ct, .inr (1, [.int cw, .int ch, .int cp, .ref aCells, .ref aPrices, .ref aFree, .ref aPlaces, .ref aHomes, .ref aManners, .ref aGone, .ref aPaid, .ref aBlinks])), (aCells, .inl (cI, 80, .inl fc))]) [2, 3, 4, 0, 1] rfl
          have hD := hD.sub (ws' := [(rd, .inr (3, [.ref tp, .ref ct, .int fn2_30, .int fpl2_31])), (tp, .inr (5, [.ref by_, .int tz, .int ts2_32, .int ta2_33, .int tb2_34, .int tv2_35])), (by_, .inl (cI, 400, .inl f)), (ct, .inr (1, [.int cw, .int ch, .int cp, .ref aCells, .ref aPrices, .ref aFree, .ref aPlaces, .ref aHomes, .ref aManners, .ref aGone, .ref aPaid, .ref aBlinks])), (aCells, .inl (cI, 80, .inl fc))]) [2, 3, 4, 0, 1] (by decide) rfl
          exact b_iret S.1 S.2.1 X.2.1 X.2.2.1 hP hD hS (Or.inl ⟨fn2_30, fpl2_31, ts2_32, ta2_33, tb2_34, tv2_35, (by first | with_reducible assumption | (and_intros <;> first | with_reducible assumption | (intros; refine Int.le_antisymm ?_ ?_ <;> omega) | omega) | assumption | decide | (rw [show Int32.toInt 0 = 0 from rfl]; omega)), (by first | with_reducible assumption | (and_intros <;> first | with_reducible assumption | (intros; refine Int.le_antisymm ?_ ?_ <;> omega) | omega) | assumption | decide | (rw [show Int32.toInt 0 = 0 from rfl]; omega)), (by first | exact rOC1 (by assumption) | exact rOC2 (by assumption) (by assumption) (by assumption) (by assumption) | exact rOC3 (by assumption) (by assumption) (by assumption) hcl (by assumption) (by assumption) (by first | (refine Int.le_antisymm ?_ ?_ <;> omega) | omega) (by first | (refine Int.le_antisymm ?_ ?_ <;> omega) | omega) (by first | (refine Int.le_antisymm ?_ ?_ <;> omega) | omega) rfl | exact (rOC4 (by assumption) (by assumption) (by assumption) (by assumption) (by assumption) (by first | (refine Int.le_antisymm ?_ ?_ <;> omega) | omega) (by first | (refine Int.le_antisymm ?_ ?_ <;> omega) | omega)).elim | (exfalso; omega)), rfl, rfl⟩) dX3_readOpenCell_87
        · have hP : va_P D vwCl [(ct, .inr (1, [.int cw, .int ch, .int cp, .ref aCells, .ref aPrices, .ref aFree, .ref aPlaces, .ref aHomes, .ref aManners, .ref aGone, .ref aPaid, .ref aBlinks])), (aCells, .inl (cI, 80, .inl fc)), (rd, .inr (3, [.ref tp, .ref ct, .int fn2_39, .int fpl2_40])), (tp, .inr (5, [.ref by_, .int tz, .int ts2_41, .int ta2_42, .int tb2_43, .int tv2_44])), (by_, .inl (cI, 400, .inl f))] H := hP
          have hD : va_D A [(ct, .inr (1, [.int cw, .int ch, .int cp, .ref aCells, .ref aPrices, .ref aFree, .ref aPlaces, .ref aHomes, .ref aManners, .ref aGone, .ref aPaid, .ref aBlinks])), (aCells, .inl (cI, 80, .inl fc)), (rd, .inr (3, [.ref tp, .ref ct, .int fn2_39, .int fpl2_40])), (tp, .inr (5, [.ref by_, .int tz, .int ts2_41, .int ta2_42, .int tb2_43, .int tv2_44])), (by_, .inl (cI, 400, .inl f))] := hD
          refine lv_istore_n (lv' := [(2, .int r_27), (1, .int r_1), (0, .ref rd)]) S.1 S.2.1 dX3_readOpenCell_71 rfl hl (by decide) rfl (fun ls hl => ?_)
          refine lv_iload_n S.1 S.2.1 dX3_readOpenCell_72 rfl (lv_at hl 0 rfl) ?_
          refine lv_iconst (v := (-1)) S.1 S.2.1 dX3_readOpenCell_73 (by decide) ?_
          refine lv_icmp_ne (tgt := 81) S.1 S.2.1 dX3_readOpenCell_74 (by decide) (fun c_51 => ?_) (fun c_51 => ?_)
          · rw [eq2 (a := r_27) (b := (-1)) (A := r_27.toInt) (B := -1) rfl rfl] at c_51
            refine lv_iload_n S.1 S.2.1 dX3_readOpenCell_81 rfl (lv_at hl 1 rfl) ?_
            refine lv_bipush (v := (10)) S.1 S.2.1 dX3_readOpenCell_82 (by decide) ?_
            refine lv_iload_n S.1 S.2.1 dX3_readOpenCell_84 rfl (lv_at hl 0 rfl) ?_
            refine lv_imul S.1 S.2.1 dX3_readOpenCell_85 ?_
            refine lv_topi (fun x_52 ex_52 => ?_)
            have tx_52 : x_52.toInt = 10 * r_27.toInt := mulI (A := 10) (B := r_27.toInt) ex_52 rfl rfl (by  omega) (by  omega)
            refine lv_iadd S.1 S.2.1 dX3_readOpenCell_86 ?_
            refine lv_topi (fun x_53 ex_53 => ?_)
            have tx_53 : x_53.toInt = r_1.toInt + (x_52.toInt) := addI (A := r_1.toInt) (B := x_52.toInt) ex_53 rfl rfl (by  omega) (by  omega)
            have hP := hP.sub (ws' := [(rd, .inr (3, [.ref tp, .ref ct, .int fn2_39, .int fpl2_40])), (tp, .inr (5, [.ref by_, .int tz, .int ts2_41, .int ta2_42, .int tb2_43, .int tv2_44])), (by_, .inl (cI, 400, .inl f)), (ct, .inr (1, [.int cw, .int ch, .int cp, .ref aCells, .ref aPrices, .ref aFree, .ref aPlaces, .ref aHomes, .ref aManners, .ref aGone, .ref aPaid, .ref aBlinks])), (aCells, .inl (cI, 80, .inl fc))]) [2, 3, 4, 0, 1] rfl
            have hD := hD.sub (ws' := [(rd, .inr (3, [.ref tp, .ref ct, .int fn2_39, .int fpl2_40])), (tp, .inr (5, [.ref by_, .int tz, .int ts2_41, .int ta2_42, .int tb2_43, .int tv2_44])), (by_, .inl (cI, 400, .inl f)), (ct, .inr (1, [.int cw, .int ch, .int cp, .ref aCells, .ref aPrices, .ref aFree, .ref aPlaces, .ref aHomes, .ref aManners, .ref aGone, .ref aPaid, .ref aBlinks])), (aCells, .inl (cI, 80, .inl fc))]) [2, 3, 4, 0, 1] (by decide) rfl
            exact b_iret S.1 S.2.1 X.2.1 X.2.2.1 hP hD hS (Or.inr (⟨fn2_39, fpl2_40, ts2_41, ta2_42, tb2_43, tv2_44, (by first | with_reducible assumption | (and_intros <;> first | with_reducible assumption | (intros; refine Int.le_antisymm ?_ ?_ <;> omega) | omega) | assumption | decide | (rw [show Int32.toInt 0 = 0 from rfl]; omega)), (by first | with_reducible assumption | (and_intros <;> first | with_reducible assumption | (intros; refine Int.le_antisymm ?_ ?_ <;> omega) | omega) | assumption | decide | (rw [show Int32.toInt 0 = 0 from rfl]; omega)), (by first | with_reducible assumption | assumption | omega | decide | (rw [show Int32.toInt 0 = 0 from rfl]; omega)), (by first | with_reducible assumption | (and_intros <;> first | with_reducible assumption | (intros; refine Int.le_antisymm ?_ ?_ <;> omega) | omega) | assumption | decide | (rw [show Int32.toInt 0 = 0 from rfl]; omega)), (by first | exact rOC5 (by assumption) (by assumption) (by assumption) hcl (by assumption) (by assumption) (by first | (refine Int.le_antisymm ?_ ?_ <;> omega) | omega) (by first | (refine Int.le_antisymm ?_ ?_ <;> omega) | omega) (by first | (refine Int.le_antisymm ?_ ?_ <;> omega) | omega) | exact (rOC6 (a := (nx (tx f tz.toInt) a0)) (by assumption) (by assumption) (by assumption)).elim), rfl⟩)) dX3_readOpenCell_87
          · rw [eq2 (a := r_27) (b := (-1)) (A := r_27.toInt) (B := -1) rfl rfl] at c_51
            refine lv_iconst (v := (-1)) S.1 S.2.1 dX3_readOpenCell_77 (by decide) ?_
            refine lv_goto (tgt := 87) S.1 S.2.1 dX3_readOpenCell_78 (by decide) ?_
            have hP := hP.sub (ws' := [(rd, .inr (3, [.ref tp, .ref ct, .int fn2_39, .int fpl2_40])), (tp, .inr (5, [.ref by_, .int tz, .int ts2_41, .int ta2_42, .int tb2_43, .int tv2_44])), (by_, .inl (cI, 400, .inl f)), (ct, .inr (1, [.int cw, .int ch, .int cp, .ref aCells, .ref aPrices, .ref aFree, .ref aPlaces, .ref aHomes, .ref aManners, .ref aGone, .ref aPaid, .ref aBlinks])), (aCells, .inl (cI, 80, .inl fc))]) [2, 3, 4, 0, 1] rfl
            have hD := hD.sub (ws' := [(rd, .inr (3, [.ref tp, .ref ct, .int fn2_39, .int fpl2_40])), (tp, .inr (5, [.ref by_, .int tz, .int ts2_41, .int ta2_42, .int tb2_43, .int tv2_44])), (by_, .inl (cI, 400, .inl f)), (ct, .inr (1, [.int cw, .int ch, .int cp, .ref aCells, .ref aPrices, .ref aFree, .ref aPlaces, .ref aHomes, .ref aManners, .ref aGone, .ref aPaid, .ref aBlinks])), (aCells, .inl (cI, 80, .inl fc))]) [2, 3, 4, 0, 1] (by decide) rfl
            exact b_iret S.1 S.2.1 X.2.1 X.2.2.1 hP hD hS (Or.inl ⟨fn2_39, fpl2_40, ts2_41, ta2_42, tb2_43, tv2_44, (by first | with_reducible assumption | (and_intros <;> first | with_reducible assumption | (intros; refine Int.le_antisymm ?_ ?_ <;> omega) | omega) | assumption | decide | (rw [show Int32.toInt 0 = 0 from rfl]; omega)), (by first | with_reducible assumption | (and_intros <;> first | with_reducible assumption | (intros; refine Int.le_antisymm ?_ ?_ <;> omega) | omega) | assumption | decide | (rw [show Int32.toInt 0 = 0 from rfl]; omega)), (by first | exact rOC1 (by assumption) | exact rOC2 (by assumption) (by assumption) (by assumption) (by assumption) | exact rOC3 (by assumption) (by assumption) (by assumption) hcl (by assumption) (by assumption) (by first | (refine Int.le_antisymm ?_ ?_ <;> omega) | omega) (by first | (refine Int.le_antisymm ?_ ?_ <;> omega) | omega) (by first | (refine Int.le_antisymm ?_ ?_ <;> omega) | omega) rfl | exact (rOC4 (by assumption) (by assumption) (by assumption) (by assumption) (by assumption) (by first | (refine Int.le_antisymm ?_ ?_ <;> omega) | omega) (by first | (refine Int.le_antisymm ?_ ?_ <;> omega) | omega)).elim | (exfalso; omega)), rfl, rfl⟩) dX3_readOpenCell_87
      · rw [eq2 (a := ts2_15) (b := 2) (A := ts2_15.toInt) (B := 2) rfl rfl] at c_26
        refine lv_aload_n S.1 S.2.1 dX3_readOpenCell_30 rfl (lv_at hl 1 rfl) ?_
        refine b_get (v := .ref ct) S iX3 hK hP 2 rfl rfl 1 (by decide) (by decide +kernel) rfl dX3_readOpenCell_31 ?_
        refine lv_iload_n S.1 S.2.1 dX3_readOpenCell_34 rfl (lv_at hl 0 rfl) ?_
        refine lv_bipush (v := (10)) S.1 S.2.1 dX3_readOpenCell_35 (by decide) ?_
        refine lv_aload_n S.1 S.2.1 dX3_readOpenCell_37 rfl (lv_at hl 1 rfl) ?_
        refine b_get (v := .ref tp) S iX3 hK hP 2 rfl rfl 0 (by decide) (by decide +kernel) rfl dX3_readOpenCell_38 ?_
        refine b_get (v := .int tv2_18) S iX5 hK hP 3 rfl rfl 5 (by decide) (by decide +kernel) rfl dX3_readOpenCell_41 ?_
        refine lv_imul S.1 S.2.1 dX3_readOpenCell_44 ?_
        refine lv_topi (fun x_54 ex_54 => ?_)
        have tx_54 : x_54.toInt = 10 * tv2_18.toInt := mulI (A := 10) (B := tv2_18.toInt) ex_54 rfl rfl (by  omega) (by  omega)
        refine lv_iadd S.1 S.2.1 dX3_readOpenCell_45 ?_
        refine lv_topi (fun x_55 ex_55 => ?_)
        have tx_55 : x_55.toInt = r_1.toInt + (x_54.toInt) := addI (A := r_1.toInt) (B := x_54.toInt) ex_55 rfl rfl (by  omega) (by  omega)
        refine b_ai (wr := [(rd, .inr (3, [.ref tp, .ref ct, .int fn2_13, .int fpl2_14])), (tp, .inr (5, [.ref by_, .int tz, .int ts2_15, .int ta2_16, .int tb2_17, .int tv2_18])), (by_, .inl (cI, 400, .inl f))]) (b_runV (q0 := 0) (ci := 1) (As := [.int x_55]) (s_X1_isOpen l D cI cZ cC cS sq H.size ct aCells x_55 cw ch cp aPrices aFree aPlaces aHomes aManners aGone aPaid aBlinks fc (by first | with_reducible assumption | assumption | omega | decide | (rw [show Int32.toInt 0 = 0 from rfl]; omega)) (by first | with_reducible assumption | (and_intros <;> first | with_reducible assumption | (intros; refine Int.le_antisymm ?_ ?_ <;> omega) | omega) | assumption | decide | (rw [show Int32.toInt 0 = 0 from rfl]; omega)) (by first | with_reducible assumption | (and_intros <;> first | with_reducible assumption | (intros; refine Int.le_antisymm ?_ ?_ <;> omega) | omega) | assumption | decide | (rw [show Int32.toInt 0 = 0 from rfl]; omega))) S gX3_readOpenCell_X1_isOpen rfl hdV_X1_isOpen ⟨Nat.le_of_ble_eq_true rfl, Nat.le_of_ble_eq_true rfl⟩ ⟨Nat.le_of_ble_eq_true rfl, Nat.le_of_ble_eq_true rfl⟩ hK hT hS hA hP hD rfl rfl [0, 1] rfl (by decide) rfl hl.1 rfl (Nat.le_of_ble_eq_true rfl) dX3_readOpenCell_46) hP hD hS hA [0, 1] [2, 3, 4] rfl rfl (by decide) (by decide) (fun r_56 w_57 H locs hw_58 hP hD hS => ?_)
        rcases hw_58 with ⟨hf_59, hf_60, rfl, rfl⟩ | ⟨hf_61, rfl, rfl⟩
        · have hP : va_P D vwCl [(rd, .inr (3, [.ref tp, .ref ct, .int fn2_13, .int fpl2_14])), (tp, .inr (5, [.ref by_, .int tz, .int ts2_15, .int ta2_16, .int tb2_17, .int tv2_18])), (by_, .inl (cI, 400, .inl f)), (ct, .inr (1, [.int cw, .int ch, .int cp, .ref aCells, .ref aPrices, .ref aFree, .ref aPlaces, .ref aHomes, .ref aManners, .ref aGone, .ref aPaid, .ref aBlinks])), (aCells, .inl (cI, 80, .inl fc))] H := hP
          have hD : va_D A [(rd, .inr (3, [.ref tp, .ref ct, .int fn2_13, .int fpl2_14])), (tp, .inr (5, [.ref by_, .int tz, .int ts2_15, .int ta2_16, .int tb2_17, .int tv2_18])), (by_, .inl (cI, 400, .inl f)), (ct, .inr (1, [.int cw, .int ch, .int cp, .ref aCells, .ref aPrices, .ref aFree, .ref aPlaces, .ref aHomes, .ref aManners, .ref aGone, .ref aPaid, .ref aBlinks])), (aCells, .inl (cI, 80, .inl fc))] := hD
          refine lv_if_ne (tgt := 60) S.1 S.2.1 dX3_readOpenCell_49 (by decide) (fun c_62 => ?_) (fun c_62 => absurd c_62 (by decide))
          refine lv_aload_n S.1 S.2.1 dX3_readOpenCell_60 rfl (lv_at hl 1 rfl) ?_
          refine lv_aload_n S.1 S.2.1 dX3_readOpenCell_61 rfl (lv_at hl 1 rfl) ?_
          refine b_get (v := .ref ct) S iX3 hK hP 0 rfl rfl 1 (by decide) (by decide +kernel) rfl dX3_readOpenCell_62 ?_
          refine b_get (v := .int ch) S iX1 hK hP 3 rfl rfl 1 (by decide) (by decide +kernel) rfl dX3_readOpenCell_65 ?_
          refine b_ai (wr := [(ct, .inr (1, [.int cw, .int ch, .int cp, .ref aCells, .ref aPrices, .ref aFree, .ref aPlaces, .ref aHomes, .ref aManners, .ref aGone, .ref aPaid, .ref aBlinks])), (aCells, .inl (cI, 80, .inl fc))]) (b_runV (q0 := 0) (ci := 3) (As := [.int ch]) (s_X3_readNumber l D cI cZ cC cS sq H.size rd tp by_ ch ct fn2_13 fpl2_14 tz ts2_15 ta2_16 tb2_17 tv2_18 f _ (by first | with_reducible assumption | assumption | omega | decide | (rw [show Int32.toInt 0 = 0 from rfl]; omega)) (by first | with_reducible assumption | (and_intros <;> first | with_reducible assumption | (intros; refine Int.le_antisymm ?_ ?_ <;> omega) | omega) | assumption | decide | (rw [show Int32.toInt 0 = 0 from rfl]; omega)) (by first | with_reducible assumption | (and_intros <;> first | with_reducible assumption | (intros; refine Int.le_antisymm ?_ ?_ <;> omega) | omega) | assumption | decide | (rw [show Int32.toInt 0 = 0 from rfl]; omega)) (by first | with_reducible assumption | (and_intros <;> first | with_reducible assumption | (intros; refine Int.le_antisymm ?_ ?_ <;> omega) | omega) | assumption | decide | (rw [show Int32.toInt 0 = 0 from rfl]; omega)) (by first | with_reducible assumption | assumption | omega | decide | (rw [show Int32.toInt 0 = 0 from rfl]; omega))) S gX3_readOpenCell_X3_readNumber rfl hdV_X3_readNumber ⟨Nat.le_of_ble_eq_true rfl, Nat.le_of_ble_eq_true rfl⟩ ⟨Nat.le_of_ble_eq_true rfl, Nat.le_of_ble_eq_true rfl⟩ hK hT hS hA hP hD rfl rfl [0, 1, 2] rfl (by decide) rfl hl.1 rfl (Nat.le_of_ble_eq_true rfl) dX3_readOpenCell_68) hP hD hS hA [0, 1, 2] [3, 4] rfl rfl (by decide) (by decide) (fun r_63 w_64 H locs hw_65 hP hD hS => ?_)
          rcases hw_65 with ⟨fn2_66, fpl2_67, ts2_68, ta2_69, tb2_70, tv2_71, hf_72, hf_73, hf_74, rfl, rfl⟩ | ⟨fn2_75, fpl2_76, ts2_77, ta2_78, tb2_79, tv2_80, hf_81, hf_82, hf_83, hf_84, hf_85, rfl⟩
          · have hP : va_P D vwCl [(ct, .inr (1, [.int cw, .int ch, .int cp, .ref aCells, .ref aPrices, .ref aFree, .ref aPlaces, .ref aHomes, .ref aManners, .ref aGone, .ref aPaid, .ref aBlinks])), (aCells, .inl (cI, 80, .inl fc)), (rd, .inr (3, [.ref tp, .ref ct, .int fn2_66, .int fpl2_67])), (tp, .inr (5, [.ref by_, .int tz, .int ts2_68, .int ta2_69, .int tb2_70, .int tv2_71])), (by_, .inl (cI, 400, .inl f))] H := hP
            have hD : va_D A [(ct, .inr (1, [.int cw, .int ch, .int cp, .ref aCells, .ref aPrices, .ref aFree, .ref aPlaces, .ref aHomes, .ref aManners, .ref aGone, .ref aPaid, .ref aBlinks])), (aCells, .inl (cI, 80, .inl fc)), (rd, .inr (3, [.ref tp, .ref ct, .int fn2_66, .int fpl2_67])), (tp, .inr (5, [.ref by_, .int tz, .int ts2_68, .int ta2_69, .int tb2_70, .int tv2_71])), (by_, .inl (cI, 400, .inl f))] := hD
            refine lv_istore_n (lv' := [(2, .int (-1)), (1, .int r_1), (0, .ref rd)]) S.1 S.2.1 dX3_readOpenCell_71 rfl hl (by decide) rfl (fun ls hl => ?_)
            refine lv_iload_n S.1 S.2.1 dX3_readOpenCell_72 rfl (lv_at hl 0 rfl) ?_
            refine lv_iconst (v := (-1)) S.1 S.2.1 dX3_readOpenCell_73 (by decide) ?_
            refine lv_icmp_ne (tgt := 81) S.1 S.2.1 dX3_readOpenCell_74 (by decide) (fun c_86 => absurd c_86 (by decide)) (fun c_86 => ?_)
            refine lv_iconst (v := (-1)) S.1 S.2.1 dX3_readOpenCell_77 (by decide) ?_
            refine lv_goto (tgt := 87) S.1 S.2.1 dX3_readOpenCell_78 (by decide) ?_
            have hP := hP.sub (ws' := [(rd, .inr (3, [.ref tp, .ref ct, .int fn2_66, .int fpl2_67])), (tp, .inr (5, [.ref by_, .int tz, .int ts2_68, .int ta2_69, .int tb2_70, .int tv2_71])), (by_, .inl (cI, 400, .inl f)), (ct, .inr (1, [.int cw, .int ch, .int cp, .ref aCells, .ref aPrices, .ref aFree, .ref aPlaces, .ref aHomes, .ref aManners, .ref aGone, .ref aPaid, .ref aBlinks])), (aCells, .inl (cI, 80, .inl fc))]) [2, 3, 4, 0, 1] rfl
            have hD := hD.sub (ws' := [(rd, .inr (3, [.ref tp, .ref ct, .int fn2_66, .int fpl2_67])), (tp, .inr (5, [.ref by_, .int tz, .int ts2_68, .int ta2_69, .int tb2_70, .int tv2_71])), (by_, .inl (cI, 400, .inl f)), (ct, .inr (1, [.int cw, .int ch, .int cp, .ref aCells, .ref aPrices, .ref aFree, .ref aPlaces, .ref aHomes, .ref aManners, .ref aGone, .ref aPaid, .ref aBlinks])), (aCells, .inl (cI, 80, .inl fc))]) [2, 3, 4, 0, 1] (by decide) rfl
            exact b_iret S.1 S.2.1 X.2.1 X.2.2.1 hP hD hS (Or.inl ⟨fn2_66, fpl2_67, ts2_68, ta2_69, tb2_70, tv2_71, (by first | with_reducible assumption | (and_intros <;> first | with_reducible assumption | (intros; refine Int.le_antisymm ?_ ?_ <;> omega) | omega) | assumption | decide | (rw [show Int32.toInt 0 = 0 from rfl]; omega)), (by first | with_reducible assumption | (and_intros <;> first | with_reducible assumption | (intros; refine Int.le_antisymm ?_ ?_ <;> omega) | omega) | assumption | decide | (rw [show Int32.toInt 0 = 0 from rfl]; omega)), (by first | exact rOC1 (by assumption) | exact rOC2 (by assumption) (by assumption) (by assumption) (by assumption) | exact rOC3 (by assumption) (by assumption) (by assumption) hcl (by assumption) (by assumption) (by first | (refine Int.le_antisymm ?_ ?_ <;> omega) | omega) (by first | (refine Int.le_antisymm ?_ ?_ <;> omega) | omega) (by first | (refine Int.le_antisymm ?_ ?_ <;> omega) | omega) rfl | exact (rOC4 (by assumption) (by assumption) (by assumption) (by assumption) (by assumption) (by first | (refine Int.le_antisymm ?_ ?_ <;> omega) | omega) (by first | (refine Int.le_antisymm ?_ ?_ <;> omega) | omega)).elim | (exfalso; omega)), rfl, rfl⟩) dX3_readOpenCell_87
          · have hP : va_P D vwCl [(ct, .inr (1, [.int cw, .int ch, .int cp, .ref aCells, .ref aPrices, .ref aFree, .ref aPlaces, .ref aHomes, .ref aManners, .ref aGone, .ref aPaid, .ref aBlinks])), (aCells, .inl (cI, 80, .inl fc)), (rd, .inr (3, [.ref tp, .ref ct, .int fn2_75, .int fpl2_76])), (tp, .inr (5, [.ref by_, .int tz, .int ts2_77, .int ta2_78, .int tb2_79, .int tv2_80])), (by_, .inl (cI, 400, .inl f))] H := hP
            have hD : va_D A [(ct, .inr (1, [.int cw, .int ch, .int cp, .ref aCells, .ref aPrices, .ref aFree, .ref aPlaces, .ref aHomes, .ref aManners, .ref aGone, .ref aPaid, .ref aBlinks])), (aCells, .inl (cI, 80, .inl fc)), (rd, .inr (3, [.ref tp, .ref ct, .int fn2_75, .int fpl2_76])), (tp, .inr (5, [.ref by_, .int tz, .int ts2_77, .int ta2_78, .int tb2_79, .int tv2_80])), (by_, .inl (cI, 400, .inl f))] := hD
            refine lv_istore_n (lv' := [(2, .int r_63), (1, .int r_1), (0, .ref rd)]) S.1 S.2.1 dX3_readOpenCell_71 rfl hl (by decide) rfl (fun ls hl => ?_)
            refine lv_iload_n S.1 S.2.1 dX3_readOpenCell_72 rfl (lv_at hl 0 rfl) ?_
            refine lv_iconst (v := (-1)) S.1 S.2.1 dX3_readOpenCell_73 (by decide) ?_
            refine lv_icmp_ne (tgt := 81) S.1 S.2.1 dX3_readOpenCell_74 (by decide) (fun c_87 => ?_) (fun c_87 => ?_)
            · rw [eq2 (a := r_63) (b := (-1)) (A := r_63.toInt) (B := -1) rfl rfl] at c_87
              refine lv_iload_n S.1 S.2.1 dX3_readOpenCell_81 rfl (lv_at hl 1 rfl) ?_
              refine lv_bipush (v := (10)) S.1 S.2.1 dX3_readOpenCell_82 (by decide) ?_
              refine lv_iload_n S.1 S.2.1 dX3_readOpenCell_84 rfl (lv_at hl 0 rfl) ?_
              refine lv_imul S.1 S.2.1 dX3_readOpenCell_85 ?_
              refine lv_topi (fun x_88 ex_88 => ?_)
              have tx_88 : x_88.toInt = 10 * r_63.toInt := mulI (A := 10) (B := r_63.toInt) ex_88 rfl rfl (by  omega) (by  omega)
              refine lv_iadd S.1 S.2.1 dX3_readOpenCell_86 ?_
              refine lv_topi (fun x_89 ex_89 => ?_)
              have tx_89 : x_89.toInt = r_1.toInt + (x_88.toInt) := addI (A := r_1.toInt) (B := x_88.toInt) ex_89 rfl rfl (by  omega) (by  omega)
              have hP := hP.sub (ws' := [(rd, .inr (3, [.ref tp, .ref ct, .int fn2_75, .int fpl2_76])), (tp, .inr (5, [.ref by_, .int tz, .int ts2_77, .int ta2_78, .int tb2_79, .int tv2_80])), (by_, .inl (cI, 400, .inl f)), (ct, .inr (1, [.int cw, .int ch, .int cp, .ref aCells, .ref aPrices, .ref aFree, .ref aPlaces, .ref aHomes, .ref aManners, .ref aGone, .ref aPaid, .ref aBlinks])), (aCells, .inl (cI, 80, .inl fc))]) [2, 3, 4, 0, 1] rfl
              have hD := hD.sub (ws' := [(rd, .inr (3, [.ref tp, .ref ct, .int fn2_75, .int fpl2_76])), (tp, .inr (5, [.ref by_, .int tz, .int ts2_77, .int ta2_78, .int tb2_79, .int tv2_80])), (by_, .inl (cI, 400, .inl f)), (ct, .inr (1, [.int cw, .int ch, .int cp, .ref aCells, .ref aPrices, .ref aFree, .ref aPlaces, .ref aHomes, .ref aManners, .ref aGone, .ref aPaid, .ref aBlinks])), (aCells, .inl (cI, 80, .inl fc))]) [2, 3, 4, 0, 1] (by decide) rfl
              exact b_iret S.1 S.2.1 X.2.1 X.2.2.1 hP hD hS (Or.inr (⟨fn2_75, fpl2_76, ts2_77, ta2_78, tb2_79, tv2_80, (by first | with_reducible assumption | (and_intros <;> first | with_reducible assumption | (intros; refine Int.le_antisymm ?_ ?_ <;> omega) | omega) | assumption | decide | (rw [show Int32.toInt 0 = 0 from rfl]; omega)), (by first | with_reducible assumption | (and_intros <;> first | with_reducible assumption | (intros; refine Int.le_antisymm ?_ ?_ <;> omega) | omega) | assumption | decide | (rw [show Int32.toInt 0 = 0 from rfl]; omega)), (by first | with_reducible assumption | assumption | omega | decide | (rw [show Int32.toInt 0 = 0 from rfl]; omega)), (by first | with_reducible assumption | (and_intros <;> first | with_reducible assumption | (intros; refine Int.le_antisymm ?_ ?_ <;> omega) | omega) | assumption | decide | (rw [show Int32.toInt 0 = 0 from rfl]; omega)), (by first | exact rOC5 (by assumption) (by assumption) (by assumption) hcl (by assumption) (by assumption) (by first | (refine Int.le_antisymm ?_ ?_ <;> omega) | omega) (by first | (refine Int.le_antisymm ?_ ?_ <;> omega) | omega) (by first | (refine Int.le_antisymm ?_ ?_ <;> omega) | omega) | exact (rOC6 (a := (nx (tx f tz.toInt) a0)) (by assumption) (by assumption) (by assumption)).elim), rfl⟩)) dX3_readOpenCell_87
            · rw [eq2 (a := r_63) (b := (-1)) (A := r_63.toInt) (B := -1) rfl rfl] at c_87
              refine lv_iconst (v := (-1)) S.1 S.2.1 dX3_readOpenCell_77 (by decide) ?_
              refine lv_goto (tgt := 87) S.1 S.2.1 dX3_readOpenCell_78 (by decide) ?_
              have hP := hP.sub (ws' := [(rd, .inr (3, [.ref tp, .ref ct, .int fn2_75, .int fpl2_76])), (tp, .inr (5, [.ref by_, .int tz, .int ts2_77, .int ta2_78, .int tb2_79, .int tv2_80])), (by_, .inl (cI, 400, .inl f)), (ct, .inr (1, [.int cw, .int ch, .int cp, .ref aCells, .ref aPrices, .ref aFree, .ref aPlaces, .ref aHomes, .ref aManners, .ref aGone, .ref aPaid, .ref aBlinks])), (aCells, .inl (cI, 80, .inl fc))]) [2, 3, 4, 0, 1] rfl
              have hD := hD.sub (ws' := [(rd, .inr (3, [.ref tp, .ref ct, .int fn2_75, .int fpl2_76])), (tp, .inr (5, [.ref by_, .int tz, .int ts2_77, .int ta2_78, .int tb2_79, .int tv2_80])), (by_, .inl (cI, 400, .inl f)), (ct, .inr (1, [.int cw, .int ch, .int cp, .ref aCells, .ref aPrices, .ref aFree, .ref aPlaces, .ref aHomes, .ref aManners, .ref aGone, .ref aPaid, .ref aBlinks])), (aCells, .inl (cI, 80, .inl fc))]) [2, 3, 4, 0, 1] (by decide) rfl
              exact b_iret S.1 S.2.1 X.2.1 X.2.2.1 hP hD hS (Or.inl ⟨fn2_75, fpl2_76, ts2_77, ta2_78, tb2_79, tv2_80, (by first | with_reducible assumption | (and_intros <;> first | with_reducible assumption | (intros; refine Int.le_antisymm ?_ ?_ <;> omega) | omega) | assumption | decide | (rw [show Int32.toInt 0 = 0 from rfl]; omega)), (by first | with_reducible assumption | (and_intros <;> first | with_reducible assumption | (intros; refine Int.le_antisymm ?_ ?_ <;> omega) | omega) | assumption | decide | (rw [show Int32.toInt 0 = 0 from rfl]; omega)), (by first | exact rOC1 (by assumption) | exact rOC2 (by assumption) (by assumption) (by assumption) (by assumption) | exact rOC3 (by assumption) (by assumption) (by assumption) hcl (by assumption) (by assumption) (by first | (refine Int.le_antisymm ?_ ?_ <;> omega) | omega) (by first | (refine Int.le_antisymm ?_ ?_ <;> omega) | omega) (by first | (refine Int.le_antisymm ?_ ?_ <;> omega) | omega) rfl | exact (rOC4 (by assumption) (by assumption) (by assumption) (by assumption) (by assumption) (by first | (refine Int.le_antisymm ?_ ?_ <;> omega) | omega) (by first | (refine Int.le_antisymm ?_ ?_ <;> omega) | omega)).elim | (exfalso; omega)), rfl, rfl⟩) dX3_readOpenCell_87
        · have hP : va_P D vwCl [(rd, .inr (3, [.ref tp, .ref ct, .int fn2_13, .int fpl2_14])), (tp, .inr (5, [.ref by_, .int tz, .int ts2_15, .int ta2_16, .int tb2_17, .int tv2_18])), (by_, .inl (cI, 400, .inl f)), (ct, .inr (1, [.int cw, .int ch, .int cp, .ref aCells, .ref aPrices, .ref aFree, .ref aPlaces, .ref aHomes, .ref aManners, .ref aGone, .ref aPaid, .ref aBlinks])), (aCells, .inl (cI, 80, .inl fc))] H := hP
          have hD : va_D A [(rd, .inr (3, [.ref tp, .ref ct, .int fn2_13, .int fpl2_14])), (tp, .inr (5, [.ref by_, .int tz, .int ts2_15, .int ta2_16, .int tb2_17, .int tv2_18])), (by_, .inl (cI, 400, .inl f)), (ct, .inr (1, [.int cw, .int ch, .int cp, .ref aCells, .ref aPrices, .ref aFree, .ref aPlaces, .ref aHomes, .ref aManners, .ref aGone, .ref aPaid, .ref aBlinks])), (aCells, .inl (cI, 80, .inl fc))] := hD
          refine lv_if_ne (tgt := 60) S.1 S.2.1 dX3_readOpenCell_49 (by decide) (fun c_90 => absurd c_90 (by decide)) (fun c_90 => ?_)
          refine lv_aload_n S.1 S.2.1 dX3_readOpenCell_52 rfl (lv_at hl 1 rfl) ?_
          refine lv_iconst (v := (2)) S.1 S.2.1 dX3_readOpenCell_53 (by decide) ?_
          refine b_ai (wr := [(by_, .inl (cI, 400, .inl f)), (ct, .inr (1, [.int cw, .int ch, .int cp, .ref aCells, .ref aPrices, .ref aFree, .ref aPlaces, .ref aHomes, .ref aManners, .ref aGone, .ref aPaid, .ref aBlinks])), (aCells, .inl (cI, 80, .inl fc))]) (b_runV (q0 := 0) (ci := 3) (As := [.int 2]) (s_X3_wrong l D cI cZ cC cS sq H.size rd tp (2) ct fn2_13 fpl2_14 by_ tz ts2_15 ta2_16 tb2_17 tv2_18) S gX3_readOpenCell_X3_wrong rfl hdV_X3_wrong ⟨Nat.le_of_ble_eq_true rfl, Nat.le_of_ble_eq_true rfl⟩ ⟨Nat.le_of_ble_eq_true rfl, Nat.le_of_ble_eq_true rfl⟩ hK hT hS hA hP hD rfl rfl [0, 1] rfl (by decide) rfl hl.1 rfl (Nat.le_of_ble_eq_true rfl) dX3_readOpenCell_54) hP hD hS hA [0, 1] [2, 3, 4] rfl rfl (by decide) (by decide) (fun r_91 w_92 H locs hw_93 hP hD hS => ?_)
          obtain ⟨rfl, rfl⟩ := hw_93
          have hP : va_P D vwCl [(by_, .inl (cI, 400, .inl f)), (ct, .inr (1, [.int cw, .int ch, .int cp, .ref aCells, .ref aPrices, .ref aFree, .ref aPlaces, .ref aHomes, .ref aManners, .ref aGone, .ref aPaid, .ref aBlinks])), (aCells, .inl (cI, 80, .inl fc)), (rd, .inr (3, [.ref tp, .ref ct, .int 2, .int ta2_16])), (tp, .inr (5, [.ref by_, .int tz, .int ts2_15, .int ta2_16, .int tb2_17, .int tv2_18]))] H := hP
          have hD : va_D A [(by_, .inl (cI, 400, .inl f)), (ct, .inr (1, [.int cw, .int ch, .int cp, .ref aCells, .ref aPrices, .ref aFree, .ref aPlaces, .ref aHomes, .ref aManners, .ref aGone, .ref aPaid, .ref aBlinks])), (aCells, .inl (cI, 80, .inl fc)), (rd, .inr (3, [.ref tp, .ref ct, .int 2, .int ta2_16])), (tp, .inr (5, [.ref by_, .int tz, .int ts2_15, .int ta2_16, .int tb2_17, .int tv2_18]))] := hD
          refine lv_pop S.1 S.2.1 dX3_readOpenCell_57 rfl ?_
          refine lv_iconst (v := (-1)) S.1 S.2.1 dX3_readOpenCell_58 (by decide) ?_
          have hP := hP.sub (ws' := [(rd, .inr (3, [.ref tp, .ref ct, .int 2, .int ta2_16])), (tp, .inr (5, [.ref by_, .int tz, .int ts2_15, .int ta2_16, .int tb2_17, .int tv2_18])), (by_, .inl (cI, 400, .inl f)), (ct, .inr (1, [.int cw, .int ch, .int cp, .ref aCells, .ref aPrices, .ref aFree, .ref aPlaces, .ref aHomes, .ref aManners, .ref aGone, .ref aPaid, .ref aBlinks])), (aCells, .inl (cI, 80, .inl fc))]) [3, 4, 0, 1, 2] rfl
          have hD := hD.sub (ws' := [(rd, .inr (3, [.ref tp, .ref ct, .int 2, .int ta2_16])), (tp, .inr (5, [.ref by_, .int tz, .int ts2_15, .int ta2_16, .int tb2_17, .int tv2_18])), (by_, .inl (cI, 400, .inl f)), (ct, .inr (1, [.int cw, .int ch, .int cp, .ref aCells, .ref aPrices, .ref aFree, .ref aPlaces, .ref aHomes, .ref aManners, .ref aGone, .ref aPaid, .ref aBlinks])), (aCells, .inl (cI, 80, .inl fc))]) [3, 4, 0, 1, 2] (by decide) rfl
          have lq2 : Int32.toInt (2) = 2 := by decide
          exact b_iret S.1 S.2.1 X.2.1 X.2.2.1 hP hD hS (Or.inl ⟨(2), ta2_16, ts2_15, ta2_16, tb2_17, tv2_18, (by first | with_reducible assumption | (and_intros <;> first | with_reducible assumption | (intros; refine Int.le_antisymm ?_ ?_ <;> omega) | omega) | assumption | decide | (rw [show Int32.toInt 0 = 0 from rfl]; omega)), (by first | with_reducible assumption | (and_intros <;> first | with_reducible assumption | (intros; refine Int.le_antisymm ?_ ?_ <;> omega) | omega) | assumption | decide | (rw [show Int32.toInt 0 = 0 from rfl]; omega)), (by first | exact rOC1 (by assumption) | exact rOC2 (by assumption) (by assumption) (by assumption) (by assumption) | exact rOC3 (by assumption) (by assumption) (by assumption) hcl (by assumption) (by assumption) (by first | (refine Int.le_antisymm ?_ ?_ <;> omega) | omega) (by first | (refine Int.le_antisymm ?_ ?_ <;> omega) | omega) (by first | (refine Int.le_antisymm ?_ ?_ <;> omega) | omega) rfl | exact (rOC4 (by assumption) (by assumption) (by assumption) (by assumption) (by assumption) (by first | (refine Int.le_antisymm ?_ ?_ <;> omega) | omega) (by first | (refine Int.le_antisymm ?_ ?_ <;> omega) | omega)).elim | (exfalso; omega)), rfl, rfl⟩) dX3_readOpenCell_59
    · rw [eq2 (a := r_1) (b := (-1)) (A := r_1.toInt) (B := -1) rfl rfl] at c_25
      refine lv_iconst (v := (-1)) S.1 S.2.1 dX3_readOpenCell_17 (by decide) ?_
      have hP := hP.sub (ws' := [(rd, .inr (3, [.ref tp, .ref ct, .int fn2_13, .int fpl2_14])), (tp, .inr (5, [.ref by_, .int tz, .int ts2_15, .int ta2_16, .int tb2_17, .int tv2_18])), (by_, .inl (cI, 400, .inl f)), (ct, .inr (1, [.int cw, .int ch, .int cp, .ref aCells, .ref aPrices, .ref aFree, .ref aPlaces, .ref aHomes, .ref aManners, .ref aGone, .ref aPaid, .ref aBlinks])), (aCells, .inl (cI, 80, .inl fc))]) [2, 3, 4, 0, 1] rfl
      have hD := hD.sub (ws' := [(rd, .inr (3, [.ref tp, .ref ct, .int fn2_13, .int fpl2_14])), (tp, .inr (5, [.ref by_, .int tz, .int ts2_15, .int ta2_16, .int tb2_17, .int tv2_18])), (by_, .inl (cI, 400, .inl f)), (ct, .inr (1, [.int cw, .int ch, .int cp, .ref aCells, .ref aPrices, .ref aFree, .ref aPlaces, .ref aHomes, .ref aManners, .ref aGone, .ref aPaid, .ref aBlinks])), (aCells, .inl (cI, 80, .inl fc))]) [2, 3, 4, 0, 1] (by decide) rfl
      exact b_iret S.1 S.2.1 X.2.1 X.2.2.1 hP hD hS (Or.inl ⟨fn2_13, fpl2_14, ts2_15, ta2_16, tb2_17, tv2_18, (by first | with_reducible assumption | (and_intros <;> first | with_reducible assumption | (intros; refine Int.le_antisymm ?_ ?_ <;> omega) | omega) | assumption | decide | (rw [show Int32.toInt 0 = 0 from rfl]; omega)), (by first | with_reducible assumption | (and_intros <;> first | with_reducible assumption | (intros; refine Int.le_antisymm ?_ ?_ <;> omega) | omega) | assumption | decide | (rw [show Int32.toInt 0 = 0 from rfl]; omega)), (by first | exact rOC1 (by assumption) | exact rOC2 (by assumption) (by assumption) (by assumption) (by assumption) | exact rOC3 (by assumption) (by assumption) (by assumption) hcl (by assumption) (by assumption) (by first | (refine Int.le_antisymm ?_ ?_ <;> omega) | omega) (by first | (refine Int.le_antisymm ?_ ?_ <;> omega) | omega) (by first | (refine Int.le_antisymm ?_ ?_ <;> omega) | omega) rfl | exact (rOC4 (by assumption) (by assumption) (by assumption) (by assumption) (by assumption) (by first | (refine Int.le_antisymm ?_ ?_ <;> omega) | omega) (by first | (refine Int.le_antisymm ?_ ?_ <;> omega) | omega)).elim | (exfalso; omega)), rfl, rfl⟩) dX3_readOpenCell_18
set_option maxHeartbeats 4000000 in
set_option maxRecDepth 100000 in
theorem lp_isRowOfCells {p : Program} (l : Launch) {e : Env} {s : State} {m : MethodId} {below : List Frame} {meth : Method} {c : Code} (D : va_G) (cI cZ cC cS : ClassId) (sq : Nat → Nat) (rd : Nat) (tp : Nat) (by_ : Nat) (ct : Nat) (fn : Int32) (fpl : Int32) (tz : Int32) (ts : Int32) (ta : Int32) (tb : Int32) (tv : Int32) (f : Nat → Int32) (cw : Int32) (ch : Int32) (cp : Int32) (aCells : Nat) (aPrices : Nat) (aFree : Nat) (aPlaces : Nat) (aHomes : Nat) (aManners : Nat) (aGone : Nat) (aPaid : Nat) (aBlinks : Nat) (a0 : Int) (hrg_f : rng f 400 (0) (255)) (hz : 0 ≤ tz.toInt ∧ tz.toInt ≤ 400) (ht1 : 0 ≤ ta.toInt ∧ ta.toInt ≤ tb.toInt ∧ tb.toInt ≤ tz.toInt) (ht2 : ts.toInt = 2 → 0 ≤ tv.toInt ∧ tv.toInt ≤ 999) (ht3 : tok (tx f tz.toInt) a0 ts.toInt ta.toInt tb.toInt tv.toInt) (hw : 0 ≤ cw.toInt ∧ cw.toInt ≤ 10) (hh : 0 ≤ ch.toInt ∧ ch.toInt ≤ 8) (h10 : tb.toInt - ta.toInt ≤ 10) {A : Nat → Prop} (X : bX p s m meth c cX3_isRowOfCells 2 wsX3_isRowOfCells yX3_isRowOfCells (some .boolean) [.ref rd]) (hK : kW D (tyW cI cZ cC cS) sq s) (hT : sT sq A s s.heap) (hA : ∀ q, s.heap.size ≤ q → A q) (K : ∀ (i : Int32), (rng f 400 (0) (255)) → (0 ≤ i.toInt ∧ ta.toInt ≤ i.toInt ∧ i.toInt ≤ 400) → (clT (tx f tz.toInt) ta.toInt i.toInt) → (tb.toInt ≤ i.toInt) → ∀ (H : Heap) (locs : List Loc) (ls : Array Slot), va_P D vwCl [(rd, .inr (3, [.ref tp, .ref ct, .int fn, .int fpl])), (tp, .inr (5, [.ref by_, .int tz, .int ts, .int ta, .int tb, .int tv])), (by_, .inl (cI, 400, .inl f)), (ct, .inr (1, [.int cw, .int ch, .int cp, .ref aCells, .ref aPrices, .ref aFree, .ref aPlaces, .ref aHomes, .ref aManners, .ref aGone, .ref aPaid, .ref aBlinks]))] H → va_D A [(rd, .inr (3, [.ref tp, .ref ct, .int fn, .int fpl])), (tp, .inr (5, [.ref by_, .int tz, .int ts, .int ta, .int tb, .int tv])), (by_, .inl (cI, 400, .inl f)), (ct, .inr (1, [.int cw, .int ch, .int cp, .ref aCells, .ref aPrices, .ref aFree, .ref aPlaces, .ref aHomes, .ref aManners, .ref aGone, .ref aPaid, .ref aBlinks]))] → va_S A s.heap H locs → lv_has ls 2 [(1, .int i), (0, .ref rd)] → W p l e (rmW 1 40 0 0) s m ([.ref rd] : List Value).toArray below meth c H locs 0 0 (MQ below (va_Qi (fun r w => ((tb.toInt - ta.toInt ≤ 10) ∧ (isC (tx f tz.toInt) ch.toInt cw.toInt a0) ∧ r = 1 ∧ w = [(rd, .inr (3, [.ref tp, .ref ct, .int fn, .int fpl])), (tp, .inr (5, [.ref by_, .int tz, .int ts, .int ta, .int tb, .int tv])), (by_, .inl (cI, 400, .inl f)), (ct, .inr (1, [.int cw, .int ch, .int cp, .ref aCells, .ref aPrices, .ref aFree, .ref aPlaces, .ref aHomes, .ref aManners, .ref aGone, .ref aPaid, .ref aBlinks]))]) ∨ ((¬ isC (tx f tz.toInt) ch.toInt cw.toInt a0) ∧ r = 0 ∧ w = [(rd, .inr (3, [.ref tp, .ref ct, .int fn, .int fpl])), (tp, .inr (5, [.ref by_, .int tz, .int ts, .int ta, .int tb, .int tv])), (by_, .inl (cI, 400, .inl f)), (ct, .inr (1, [.int cw, .int ch, .int cp, .ref aCells, .ref aPrices, .ref aFree, .ref aPlaces, .ref aHomes, .ref aManners, .ref aGone, .ref aPaid, .ref aBlinks]))])) (wD D A) A) ([.ref rd] : List Value).toArray s 0 0 A) (F0 m 97 ls [])) : ∀ (mN : Nat) (i : Int32), (rng f 400 (0) (255)) → (0 ≤ i.toInt ∧ ta.toInt ≤ i.toInt ∧ i.toInt ≤ 400) → (clT (tx f tz.toInt) ta.toInt i.toInt) → ((400 - i.toInt).toNat < mN) → ∀ (H : Heap) (locs : List Loc) (ls : Array Slot), va_P D vwCl [(rd, .inr (3, [.ref tp, .ref ct, .int fn, .int fpl])), (tp, .inr (5, [.ref by_, .int tz, .int ts, .int ta, .int tb, .int tv])), (by_, .inl (cI, 400, .inl f)), (ct, .inr (1, [.int cw, .int ch, .int cp, .ref aCells, .ref aPrices, .ref aFree, .ref aPlaces, .ref aHomes, .ref aManners, .ref aGone, .ref aPaid, .ref aBlinks]))] H → va_D A [(rd, .inr (3, [.ref tp, .ref ct, .int fn, .int fpl])), (tp, .inr (5, [.ref by_, .int tz, .int ts, .int ta, .int tb, .int tv])), (by_, .inl (cI, 400, .inl f)), (ct, .inr (1, [.int cw, .int ch, .int cp, .ref aCells, .ref aPrices, .ref aFree, .ref aPlaces, .ref aHomes, .ref aManners, .ref aGone, .ref aPaid, .ref aBlinks]))] → va_S A s.heap H locs → lv_has ls 2 [(1, .int i), (0, .ref rd)] → W p l e (rmW 1 40 0 0) s m ([.ref rd] : List Value).toArray below meth c H locs 0 0 (MQ below (va_Qi (fun r w => ((tb.toInt - ta.toInt ≤ 10) ∧ (isC (tx f tz.toInt) ch.toInt cw.toInt a0) ∧ r = 1 ∧ w = [(rd, .inr (3, [.ref tp, .ref ct, .int fn, .int fpl])), (tp, .inr (5, [.ref by_, .int tz, .int ts, .int ta, .int tb, .int tv])), (by_, .inl (cI, 400, .inl f)), (ct, .inr (1, [.int cw, .int ch, .int cp, .ref aCells, .ref aPrices, .ref aFree, .ref aPlaces, .ref aHomes, .ref aManners, .ref aGone, .ref aPaid, .ref aBlinks]))]) ∨ ((¬ isC (tx f tz.toInt) ch.toInt cw.toInt a0) ∧ r = 0 ∧ w = [(rd, .inr (3, [.ref tp, .ref ct, .int fn, .int fpl])), (tp, .inr (5, [.ref by_, .int tz, .int ts, .int ta, .int tb, .int tv])), (by_, .inl (cI, 400, .inl f)), (ct, .inr (1, [.int cw, .int ch, .int cp, .ref aCells, .ref aPrices, .ref aFree, .ref aPlaces, .ref aHomes, .ref aManners, .ref aGone, .ref aPaid, .ref aBlinks]))])) (wD D A) A) ([.ref rd] : List Value).toArray s 0 0 A) (F0 m 62 ls []) := by
  have S : CallFix p m c cX3_isRowOfCells 2 s ([.ref rd] : List Value).toArray wsX3_isRowOfCells RX3 := X.1
  have iX3 := jX3_isRowOfCells_X3
  have iX5 := jX3_isRowOfCells_X5
  intro mN
  induction mN with
  | zero => intro i hrg_f hi hct hm; exact absurd hm (Nat.not_lt_zero _)
  | succ mN ih =>
    intro i hrg_f hi hct hm H locs ls hP hD hS hl
    refine lv_iload_n S.1 S.2.1 dX3_isRowOfCells_62 rfl (lv_at hl 0 rfl) ?_
    refine lv_aload_n S.1 S.2.1 dX3_isRowOfCells_63 rfl (lv_at hl 1 rfl) ?_
    refine b_get (v := .ref tp) S iX3 hK hP 0 rfl rfl 0 (by decide) (by decide +kernel) rfl dX3_isRowOfCells_64 ?_
    refine b_get (v := .int tb) S iX5 hK hP 1 rfl rfl 4 (by decide) (by decide +kernel) rfl dX3_isRowOfCells_67 ?_
    refine lv_icmp_ge (tgt := 97) S.1 S.2.1 dX3_isRowOfCells_70 (by decide) (fun c_101 => ?_) (fun c_101 => ?_)
    · rw [le2 (a := tb) (b := i) (A := tb.toInt) (B := i.toInt) rfl rfl] at c_101
      exact K i (by first | with_reducible assumption | assumption | omega | decide | (rw [show Int32.toInt 0 = 0 from rfl]; omega)) (by first | with_reducible assumption | (and_intros <;> first | with_reducible assumption | (intros; refine Int.le_antisymm ?_ ?_ <;> omega) | omega) | assumption | decide | (rw [show Int32.toInt 0 = 0 from rfl]; omega)) (by first | assumption | exact clT_st hct (by assumption) (by assumption) (by first | (refine Int.le_antisymm ?_ ?_ <;> omega) | omega) (by first | (refine Int.le_antisymm ?_ ?_ <;> omega) | omega)) (by first | with_reducible assumption | (and_intros <;> first | with_reducible assumption | (intros; refine Int.le_antisymm ?_ ?_ <;> omega) | omega) | assumption | decide | (rw [show Int32.toInt 0 = 0 from rfl]; omega)) H _ ls hP hD hS (lv_sub hl [0, 1] rfl)
    · rw [le2 (a := tb) (b := i) (A := tb.toInt) (B := i.toInt) rfl rfl] at c_101
      refine lv_aload_n S.1 S.2.1 dX3_isRowOfCells_73 rfl (lv_at hl 1 rfl) ?_
      refine b_get (v := .ref tp) S iX3 hK hP 0 rfl rfl 0 (by decide) (by decide +kernel) rfl dX3_isRowOfCells_74 ?_
      refine b_get (v := .ref by_) S iX5 hK hP 1 rfl rfl 0 (by decide) (by decide +kernel) rfl dX3_isRowOfCells_77 ?_
      refine lv_iload_n S.1 S.2.1 dX3_isRowOfCells_80 rfl (lv_at hl 0 rfl) ?_
      have hin_102 : vp_in i 400 := (in_of (n := 400) (by  omega) (by  omega))
      refine va_iald S.1 S.2.1 hK.1 hP 2 0 rfl rfl hin_102 dX3_isRowOfCells_81 ?_
      refine lv_topi (fun x_103 ex_103 => ?_)
      have tx_103 := rng_get (x := x_103) (show rng f 400 (0) (255) by assumption) hin_102 ex_103
      have qx_103 := tx_get (n := tz.toInt) (i := i) (by first | (refine Int.le_antisymm ?_ ?_ <;> omega) | omega) (by first | (refine Int.le_antisymm ?_ ?_ <;> omega) | omega) ex_103
      refine b_ai (wr := [(rd, .inr (3, [.ref tp, .ref ct, .int fn, .int fpl])), (tp, .inr (5, [.ref by_, .int tz, .int ts, .int ta, .int tb, .int tv])), (by_, .inl (cI, 400, .inl f)), (ct, .inr (1, [.int cw, .int ch, .int cp, .ref aCells, .ref aPrices, .ref aFree, .ref aPlaces, .ref aHomes, .ref aManners, .ref aGone, .ref aPaid, .ref aBlinks]))]) (b_runS (As := [.int x_103]) (s_X3_cellOf l D cI cZ cC cS sq H.size x_103) S gX3_isRowOfCells_X3_cellOf rfl hdS_X3_cellOf ⟨Nat.le_of_ble_eq_true rfl, Nat.le_of_ble_eq_true rfl⟩ ⟨Nat.le_of_ble_eq_true rfl, Nat.le_of_ble_eq_true rfl⟩ hK hT hS hA hP hD [] rfl (by decide) rfl hl.1 rfl (Nat.le_of_ble_eq_true rfl) dX3_isRowOfCells_82) hP hD hS hA [] [0, 1, 2, 3] rfl rfl (by decide) (by decide) (fun r_104 w_105 H locs hw_106 hP hD hS => ?_)
      obtain ⟨hf_107, hf_108, rfl⟩ := hw_106
      have hP : va_P D vwCl [(rd, .inr (3, [.ref tp, .ref ct, .int fn, .int fpl])), (tp, .inr (5, [.ref by_, .int tz, .int ts, .int ta, .int tb, .int tv])), (by_, .inl (cI, 400, .inl f)), (ct, .inr (1, [.int cw, .int ch, .int cp, .ref aCells, .ref aPrices, .ref aFree, .ref aPlaces, .ref aHomes, .ref aManners, .ref aGone, .ref aPaid, .ref aBlinks]))] H := hP
      have hD : va_D A [(rd, .inr (3, [.ref tp, .ref ct, .int fn, .int fpl])), (tp, .inr (5, [.ref by_, .int tz, .int ts, .int ta, .int tb, .int tv])), (by_, .inl (cI, 400, .inl f)), (ct, .inr (1, [.int cw, .int ch, .int cp, .ref aCells, .ref aPrices, .ref aFree, .ref aPlaces, .ref aHomes, .ref aManners, .ref aGone, .ref aPaid, .ref aBlinks]))] := hD
      refine lv_iconst (v := (-1)) S.1 S.2.1 dX3_isRowOfCells_85 (by decide) ?_
      refine lv_icmp_ne (tgt := 91) S.1 S.2.1 dX3_isRowOfCells_86 (by decide) (fun c_109 => ?_) (fun c_109 => ?_)
      · rw [eq2 (a := r_104) (b := (-1)) (A := r_104.toInt) (B := -1) rfl rfl] at c_109
        obtain ⟨x_110, ex_110⟩ : ∃ y : Int32, y = i + Int32.ofInt (1) := ⟨_, rfl⟩
        refine lv_iinc (v := x_110) (lv' := [(1, .int x_110), (0, .ref rd)]) S.1 S.2.1 dX3_isRowOfCells_91 hl (k := 0) rfl ex_110.symm (by decide) rfl (fun ls hl => ?_)
        have tx_110 : x_110.toInt = i.toInt + (1) := addI (A := i.toInt) (B := 1) ex_110 rfl rfl (by  omega) (by  omega)
        refine lv_goto (tgt := 62) S.1 S.2.1 dX3_isRowOfCells_94 (by decide) ?_
        exact ih x_110 (by first | with_reducible assumption | assumption | omega | decide | (rw [show Int32.toInt 0 = 0 from rfl]; omega)) (by first | with_reducible assumption | (and_intros <;> first | with_reducible assumption | (intros; refine Int.le_antisymm ?_ ?_ <;> omega) | omega) | assumption | decide | (rw [show Int32.toInt 0 = 0 from rfl]; omega)) (by first | assumption | exact clT_st hct (by assumption) (by assumption) (by first | (refine Int.le_antisymm ?_ ?_ <;> omega) | omega) (by first | (refine Int.le_antisymm ?_ ?_ <;> omega) | omega)) (by first | (refine Int.le_antisymm ?_ ?_ <;> omega) | omega) H _ ls hP hD hS (lv_sub hl [0, 1] rfl)
      · rw [eq2 (a := r_104) (b := (-1)) (A := r_104.toInt) (B := -1) rfl rfl] at c_109
        refine lv_iconst (v := (0)) S.1 S.2.1 dX3_isRowOfCells_89 (by decide) ?_
        exact b_zret S.1 S.2.1 X.2.1 X.2.2.1 rfl hP hD hS (Or.inr (⟨(isC_n ht3 (by first | exact Or.inl (by assumption) | exact Or.inr (Or.inl (by first | (refine Int.le_antisymm ?_ ?_ <;> omega) | omega)) | exact Or.inr (Or.inr (Or.inl ⟨by omega, by omega⟩)) | exact Or.inr (Or.inr (Or.inr (fun q => clT_no q (by assumption) (by assumption) (by first | (refine Int.le_antisymm ?_ ?_ <;> omega) | omega) (by first | (refine Int.le_antisymm ?_ ?_ <;> omega) | omega)))))), rfl, rfl⟩)) dX3_isRowOfCells_90
set_option maxHeartbeats 4000000 in
set_option maxRecDepth 100000 in
theorem s_X3_isRowOfCells (l : Launch) (D : va_G) (cI cZ cC cS : ClassId) (sq : Nat → Nat) (sz : Nat) (rd : Nat) (tp : Nat) (by_ : Nat) (ct : Nat) (fn : Int32) (fpl : Int32) (tz : Int32) (ts : Int32) (ta : Int32) (tb : Int32) (tv : Int32) (f : Nat → Int32) (cw : Int32) (ch : Int32) (cp : Int32) (aCells : Nat) (aPrices : Nat) (aFree : Nat) (aPlaces : Nat) (aHomes : Nat) (aManners : Nat) (aGone : Nat) (aPaid : Nat) (aBlinks : Nat) (a0 : Int) (hrg_f : rng f 400 (0) (255)) (hz : 0 ≤ tz.toInt ∧ tz.toInt ≤ 400) (ht1 : 0 ≤ ta.toInt ∧ ta.toInt ≤ tb.toInt ∧ tb.toInt ≤ tz.toInt) (ht2 : ts.toInt = 2 → 0 ≤ tv.toInt ∧ tv.toInt ≤ 999) (ht3 : tok (tx f tz.toInt) a0 ts.toInt ta.toInt tb.toInt tv.toInt) (hw : 0 ≤ cw.toInt ∧ cw.toInt ≤ 10) (hh : 0 ≤ ch.toInt ∧ ch.toInt ≤ 8) : mI l yX3_isRowOfCells wsX3_isRowOfCells 1 40 D (tyW cI cZ cC cS) sq [(rd, .inr (3, [.ref tp, .ref ct, .int fn, .int fpl])), (tp, .inr (5, [.ref by_, .int tz, .int ts, .int ta, .int tb, .int tv])), (by_, .inl (cI, 400, .inl f)), (ct, .inr (1, [.int cw, .int ch, .int cp, .ref aCells, .ref aPrices, .ref aFree, .ref aPlaces, .ref aHomes, .ref aManners, .ref aGone, .ref aPaid, .ref aBlinks]))] sz [.ref rd] (fun r w => ((tb.toInt - ta.toInt ≤ 10) ∧ (isC (tx f tz.toInt) ch.toInt cw.toInt a0) ∧ r = 1 ∧ w = [(rd, .inr (3, [.ref tp, .ref ct, .int fn, .int fpl])), (tp, .inr (5, [.ref by_, .int tz, .int ts, .int ta, .int tb, .int tv])), (by_, .inl (cI, 400, .inl f)), (ct, .inr (1, [.int cw, .int ch, .int cp, .ref aCells, .ref aPrices, .ref aFree, .ref aPlaces, .ref aHomes, .ref aManners, .ref aGone, .ref aPaid, .ref aBlinks]))]) ∨ ((¬ isC (tx f tz.toInt) ch.toInt cw.toInt a0) ∧ r = 0 ∧ w = [(rd, .inr (3, [.ref tp, .ref ct, .int fn, .int fpl])), (tp, .inr (5, [.ref by_, .int tz, .int ts, .int ta, .int tb, .int tv])), (by_, .inl (cI, 400, .inl f)), (ct, .inr (1, [.int cw, .int ch, .int cp, .ref aCells, .ref aPrices, .ref aFree, .ref aPlaces, .ref aHomes, .ref aManners, .ref aGone, .ref aPaid, .ref aBlinks]))])) := by
  refine b_metI (cc := cX3_isRowOfCells) (maxL := 2) (ret := (some .boolean)) (by decide) rfl (Nat.le_of_ble_eq_true rfl) ?_
  intro p e s m below meth c ls A H X hsz hP hK hT hD hA hS hl
  have S : CallFix p m c cX3_isRowOfCells 2 s ([.ref rd] : List Value).toArray wsX3_isRowOfCells RX3 := X.1
  have hl : lv_has ls 2 [(0, .ref rd)] := hl
  have iX1 := jX3_isRowOfCells_X1
  have iX3 := jX3_isRowOfCells_X3
  have iX5 := jX3_isRowOfCells_X5
  refine lv_aload_n S.1 S.2.1 dX3_isRowOfCells_0 rfl (lv_at hl 0 rfl) ?_
  refine b_get (v := .ref tp) S iX3 hK hP 0 rfl rfl 0 (by decide) (by decide +kernel) rfl dX3_isRowOfCells_1 ?_
  refine b_get (v := .int ts) S iX5 hK hP 1 rfl rfl 2 (by decide) (by decide +kernel) rfl dX3_isRowOfCells_4 ?_
  refine lv_iconst (v := (1)) S.1 S.2.1 dX3_isRowOfCells_7 (by decide) ?_
  refine lv_icmp_ne (tgt := 23) S.1 S.2.1 dX3_isRowOfCells_8 (by decide) (fun c_1 => ?_) (fun c_1 => ?_)
  · rw [eq2 (a := ts) (b := 1) (A := ts.toInt) (B := 1) rfl rfl] at c_1
    refine lv_iconst (v := (0)) S.1 S.2.1 dX3_isRowOfCells_23 (by decide) ?_
    exact b_zret S.1 S.2.1 X.2.1 X.2.2.1 rfl hP hD hS (Or.inr (⟨(isC_n ht3 (by first | exact Or.inl (by assumption) | exact Or.inr (Or.inl (by first | (refine Int.le_antisymm ?_ ?_ <;> omega) | omega)) | exact Or.inr (Or.inr (Or.inl ⟨by omega, by omega⟩)) | exact Or.inr (Or.inr (Or.inr (fun q => clT_no q (by assumption) (by assumption) (by first | (refine Int.le_antisymm ?_ ?_ <;> omega) | omega) (by first | (refine Int.le_antisymm ?_ ?_ <;> omega) | omega)))))), rfl, rfl⟩)) dX3_isRowOfCells_24
  · rw [eq2 (a := ts) (b := 1) (A := ts.toInt) (B := 1) rfl rfl] at c_1
    refine lv_aload_n S.1 S.2.1 dX3_isRowOfCells_11 rfl (lv_at hl 0 rfl) ?_
    refine b_get (v := .ref tp) S iX3 hK hP 0 rfl rfl 0 (by decide) (by decide +kernel) rfl dX3_isRowOfCells_12 ?_
    refine b_ai (wr := [(rd, .inr (3, [.ref tp, .ref ct, .int fn, .int fpl])), (by_, .inl (cI, 400, .inl f)), (ct, .inr (1, [.int cw, .int ch, .int cp, .ref aCells, .ref aPrices, .ref aFree, .ref aPlaces, .ref aHomes, .ref aManners, .ref aGone, .ref aPaid, .ref aBlinks]))]) (b_runV (q0 := 1) (ci := 5) (As := []) (s_X5_length l D cI cZ cC cS sq H.size tp by_ tz ts ta tb tv (by first | with_reducible assumption | (and_intros <;> first | with_reducible assumption | (intros; refine Int.le_antisymm ?_ ?_ <;> omega) | omega) | assumption | decide | (rw [show Int32.toInt 0 = 0 from rfl]; omega))) S gX3_isRowOfCells_X5_length rfl hdV_X5_length ⟨Nat.le_of_ble_eq_true rfl, Nat.le_of_ble_eq_true rfl⟩ ⟨Nat.le_of_ble_eq_true rfl, Nat.le_of_ble_eq_true rfl⟩ hK hT hS hA hP hD rfl rfl [1] rfl (by decide) rfl hl.1 rfl (Nat.le_of_ble_eq_true rfl) dX3_isRowOfCells_15) hP hD hS hA [1] [0, 2, 3] rfl rfl (by decide) (by decide) (fun r_2 w_3 H locs hw_4 hP hD hS => ?_)
    obtain ⟨hf_5, rfl⟩ := hw_4
    have hP : va_P D vwCl [(rd, .inr (3, [.ref tp, .ref ct, .int fn, .int fpl])), (by_, .inl (cI, 400, .inl f)), (ct, .inr (1, [.int cw, .int ch, .int cp, .ref aCells, .ref aPrices, .ref aFree, .ref aPlaces, .ref aHomes, .ref aManners, .ref aGone, .ref aPaid, .ref aBlinks])), (tp, .inr (5, [.ref by_, .int tz, .int ts, .int ta, .int tb, .int tv]))] H := hP
    have hD : va_D A [(rd, .inr (3, [.ref tp, .ref ct, .int fn, .int fpl])), (by_, .inl (cI, 400, .inl f)), (ct, .inr (1, [.int cw, .int ch, .int cp, .ref aCells, .ref aPrices, .ref aFree, .ref aPlaces, .ref aHomes, .ref aManners, .ref aGone, .ref aPaid, .ref aBlinks])), (tp, .inr (5, [.ref by_, .int tz, .int ts, .int ta, .int tb, .int tv]))] := hD
    refine lv_bipush (v := (10)) S.1 S.2.1 dX3_isRowOfCells_18 (by decide) ?_
    refine lv_icmp_le (tgt := 25) S.1 S.2.1 dX3_isRowOfCells_20 (by decide) (fun c_6 => ?_) (fun c_6 => ?_)
    · rw [le2 (a := r_2) (b := 10) (A := r_2.toInt) (B := 10) rfl rfl] at c_6
      refine lv_aload_n S.1 S.2.1 dX3_isRowOfCells_25 rfl (lv_at hl 0 rfl) ?_
      refine b_get (v := .ref ct) S iX3 hK hP 0 rfl rfl 1 (by decide) (by decide +kernel) rfl dX3_isRowOfCells_26 ?_
      refine b_get (v := .int ch) S iX1 hK hP 2 rfl rfl 1 (by decide) (by decide +kernel) rfl dX3_isRowOfCells_29 ?_
      refine lv_if_le (tgt := 54) S.1 S.2.1 dX3_isRowOfCells_32 (by decide) (fun c_7 => ?_) (fun c_7 => ?_)
      · rw [le2 (a := ch) (b := 0) (A := ch.toInt) (B := 0) rfl rfl] at c_7
        refine lv_aload_n S.1 S.2.1 dX3_isRowOfCells_54 rfl (lv_at hl 0 rfl) ?_
        refine b_get (v := .ref tp) S iX3 hK hP 0 rfl rfl 0 (by decide) (by decide +kernel) rfl dX3_isRowOfCells_55 ?_
        refine b_get (v := .int ta) S iX5 hK hP 3 rfl rfl 3 (by decide) (by decide +kernel) rfl dX3_isRowOfCells_58 ?_
        refine lv_istore_n (lv' := [(1, .int ta), (0, .ref rd)]) S.1 S.2.1 dX3_isRowOfCells_61 rfl hl (by decide) rfl (fun ls hl => ?_)
        have hP := hP.sub (ws' := [(rd, .inr (3, [.ref tp, .ref ct, .int fn, .int fpl])), (tp, .inr (5, [.ref by_, .int tz, .int ts, .int ta, .int tb, .int tv])), (by_, .inl (cI, 400, .inl f)), (ct, .inr (1, [.int cw, .int ch, .int cp, .ref aCells, .ref aPrices, .ref aFree, .ref aPlaces, .ref aHomes, .ref aManners, .ref aGone, .ref aPaid, .ref aBlinks]))]) [0, 3, 1, 2] rfl
        have hD := hD.sub (ws' := [(rd, .inr (3, [.ref tp, .ref ct, .int fn, .int fpl])), (tp, .inr (5, [.ref by_, .int tz, .int ts, .int ta, .int tb, .int tv])), (by_, .inl (cI, 400, .inl f)), (ct, .inr (1, [.int cw, .int ch, .int cp, .ref aCells, .ref aPrices, .ref aFree, .ref aPlaces, .ref aHomes, .ref aManners, .ref aGone, .ref aPaid, .ref aBlinks]))]) [0, 3, 1, 2] (by decide) rfl
        refine lp_isRowOfCells l D cI cZ cC cS sq rd tp by_ ct fn fpl tz ts ta tb tv f cw ch cp aCells aPrices aFree aPlaces aHomes aManners aGone aPaid aBlinks a0 hrg_f hz ht1 ht2 ht3 hw hh (by first | with_reducible assumption | (and_intros <;> first | with_reducible assumption | (intros; refine Int.le_antisymm ?_ ?_ <;> omega) | omega) | assumption | decide | (rw [show Int32.toInt 0 = 0 from rfl]; omega)) X hK hT hA (fun i_8 hi_9 hi_10 hi_11 hi_12 H locs ls hP hD hS hl => ?_) _ ta (by first | with_reducible assumption | assumption | omega | decide | (rw [show Int32.toInt 0 = 0 from rfl]; omega)) (by first | with_reducible assumption | (and_intros <;> first | with_reducible assumption | (intros; refine Int.le_antisymm ?_ ?_ <;> omega) | omega) | assumption | decide | (rw [show Int32.toInt 0 = 0 from rfl]; omega)) (clT_0 (by first | (refine Int.le_antisymm ?_ ?_ <;> omega) | omega)) (Nat.lt_succ_self _) H _ ls hP hD hS (lv_sub hl [0, 1] rfl)
        refine lv_iconst (v := (1)) S.1 S.2.1 dX3_isRowOfCells_97 (by decide) ?_
        exact b_zret S.1 S.2.1 X.2.1 X.2.2.1 rfl hP hD hS (Or.inl ⟨(by first | with_reducible assumption | (and_intros <;> first | with_reducible assumption | (intros; refine Int.le_antisymm ?_ ?_ <;> omega) | omega) | assumption | decide | (rw [show Int32.toInt 0 = 0 from rfl]; omega)), (isC_y ht3 (by assumption) (by first | (refine Int.le_antisymm ?_ ?_ <;> omega) | omega) (by first | (refine Int.le_antisymm ?_ ?_ <;> omega) | omega) (clT_sub (by assumption) (by first | (refine Int.le_antisymm ?_ ?_ <;> omega) | omega))), rfl, rfl⟩) dX3_isRowOfCells_98
      · rw [le2 (a := ch) (b := 0) (A := ch.toInt) (B := 0) rfl rfl] at c_7
        refine lv_aload_n S.1 S.2.1 dX3_isRowOfCells_35 rfl (lv_at hl 0 rfl) ?_
        refine b_get (v := .ref tp) S iX3 hK hP 0 rfl rfl 0 (by decide) (by decide +kernel) rfl dX3_isRowOfCells_36 ?_
        refine b_ai (wr := [(rd, .inr (3, [.ref tp, .ref ct, .int fn, .int fpl])), (by_, .inl (cI, 400, .inl f)), (ct, .inr (1, [.int cw, .int ch, .int cp, .ref aCells, .ref aPrices, .ref aFree, .ref aPlaces, .ref aHomes, .ref aManners, .ref aGone, .ref aPaid, .ref aBlinks]))]) (b_runV (q0 := 3) (ci := 5) (As := []) (s_X5_length l D cI cZ cC cS sq H.size tp by_ tz ts ta tb tv (by first | with_reducible assumption | (and_intros <;> first | with_reducible assumption | (intros; refine Int.le_antisymm ?_ ?_ <;> omega) | omega) | assumption | decide | (rw [show Int32.toInt 0 = 0 from rfl]; omega))) S gX3_isRowOfCells_X5_length rfl hdV_X5_length ⟨Nat.le_of_ble_eq_true rfl, Nat.le_of_ble_eq_true rfl⟩ ⟨Nat.le_of_ble_eq_true rfl, Nat.le_of_ble_eq_true rfl⟩ hK hT hS hA hP hD rfl rfl [3] rfl (by decide) rfl hl.1 rfl (Nat.le_of_ble_eq_true rfl) dX3_isRowOfCells_39) hP hD hS hA [3] [0, 1, 2] rfl rfl (by decide) (by decide) (fun r_13 w_14 H locs hw_15 hP hD hS => ?_)
        obtain ⟨hf_16, rfl⟩ := hw_15
        have hP : va_P D vwCl [(rd, .inr (3, [.ref tp, .ref ct, .int fn, .int fpl])), (by_, .inl (cI, 400, .inl f)), (ct, .inr (1, [.int cw, .int ch, .int cp, .ref aCells, .ref aPrices, .ref aFree, .ref aPlaces, .ref aHomes, .ref aManners, .ref aGone, .ref aPaid, .ref aBlinks])), (tp, .inr (5, [.ref by_, .int tz, .int ts, .int ta, .int tb, .int tv]))] H := hP
        have hD : va_D A [(rd, .inr (3, [.ref tp, .ref ct, .int fn, .int fpl])), (by_, .inl (cI, 400, .inl f)), (ct, .inr (1, [.int cw, .int ch, .int cp, .ref aCells, .ref aPrices, .ref aFree, .ref aPlaces, .ref aHomes, .ref aManners, .ref aGone, .ref aPaid, .ref aBlinks])), (tp, .inr (5, [.ref by_, .int tz, .int ts, .int ta, .int tb, .int tv]))] := hD
        refine lv_aload_n S.1 S.2.1 dX3_isRowOfCells_42 rfl (lv_at hl 0 rfl) ?_
        refine b_get (v := .ref ct) S iX3 hK hP 0 rfl rfl 1 (by decide) (by decide +kernel) rfl dX3_isRowOfCells_43 ?_
        refine b_get (v := .int cw) S iX1 hK hP 2 rfl rfl 0 (by decide) (by decide +kernel) rfl dX3_isRowOfCells_46 ?_
        refine lv_icmp_eq (tgt := 54) S.1 S.2.1 dX3_isRowOfCells_49 (by decide) (fun c_17 => ?_) (fun c_17 => ?_)
        · rw [eq2 (a := r_13) (b := cw) (A := r_13.toInt) (B := cw.toInt) rfl rfl] at c_17
          refine lv_aload_n S.1 S.2.1 dX3_isRowOfCells_54 rfl (lv_at hl 0 rfl) ?_
          refine b_get (v := .ref tp) S iX3 hK hP 0 rfl rfl 0 (by decide) (by decide +kernel) rfl dX3_isRowOfCells_55 ?_
          refine b_get (v := .int ta) S iX5 hK hP 3 rfl rfl 3 (by decide) (by decide +kernel) rfl dX3_isRowOfCells_58 ?_
          refine lv_istore_n (lv' := [(1, .int ta), (0, .ref rd)]) S.1 S.2.1 dX3_isRowOfCells_61 rfl hl (by decide) rfl (fun ls hl => ?_)
          have hP := hP.sub (ws' := [(rd, .inr (3, [.ref tp, .ref ct, .int fn, .int fpl])), (tp, .inr (5, [.ref by_, .int tz, .int ts, .int ta, .int tb, .int tv])), (by_, .inl (cI, 400, .inl f)), (ct, .inr (1, [.int cw, .int ch, .int cp, .ref aCells, .ref aPrices, .ref aFree, .ref aPlaces, .ref aHomes, .ref aManners, .ref aGone, .ref aPaid, .ref aBlinks]))]) [0, 3, 1, 2] rfl
          have hD := hD.sub (ws' := [(rd, .inr (3, [.ref tp, .ref ct, .int fn, .int fpl])), (tp, .inr (5, [.ref by_, .int tz, .int ts, .int ta, .int tb, .int tv])), (by_, .inl (cI, 400, .inl f)), (ct, .inr (1, [.int cw, .int ch, .int cp, .ref aCells, .ref aPrices, .ref aFree, .ref aPlaces, .ref aHomes, .ref aManners, .ref aGone, .ref aPaid, .ref aBlinks]))]) [0, 3, 1, 2] (by decide) rfl
          refine lp_isRowOfCells l D cI cZ cC cS sq rd tp by_ ct fn fpl tz ts ta tb tv f cw ch cp aCells aPrices aFree aPlaces aHomes aManners aGone aPaid aBlinks a0 hrg_f hz ht1 ht2 ht3 hw hh (by first | with_reducible assumption | (and_intros <;> first | with_reducible assumption | (intros; refine Int.le_antisymm ?_ ?_ <;> omega) | omega) | assumption | decide | (rw [show Int32.toInt 0 = 0 from rfl]; omega)) X hK hT hA (fun i_18 hi_19 hi_20 hi_21 hi_22 H locs ls hP hD hS hl => ?_) _ ta (by first | with_reducible assumption | assumption | omega | decide | (rw [show Int32.toInt 0 = 0 from rfl]; omega)) (by first | with_reducible assumption | (and_intros <;> first | with_reducible assumption | (intros; refine Int.le_antisymm ?_ ?_ <;> omega) | omega) | assumption | decide | (rw [show Int32.toInt 0 = 0 from rfl]; omega)) (clT_0 (by first | (refine Int.le_antisymm ?_ ?_ <;> omega) | omega)) (Nat.lt_succ_self _) H _ ls hP hD hS (lv_sub hl [0, 1] rfl)
          refine lv_iconst (v := (1)) S.1 S.2.1 dX3_isRowOfCells_97 (by decide) ?_
          exact b_zret S.1 S.2.1 X.2.1 X.2.2.1 rfl hP hD hS (Or.inl ⟨(by first | with_reducible assumption | (and_intros <;> first | with_reducible assumption | (intros; refine Int.le_antisymm ?_ ?_ <;> omega) | omega) | assumption | decide | (rw [show Int32.toInt 0 = 0 from rfl]; omega)), (isC_y ht3 (by assumption) (by first | (refine Int.le_antisymm ?_ ?_ <;> omega) | omega) (by first | (refine Int.le_antisymm ?_ ?_ <;> omega) | omega) (clT_sub (by assumption) (by first | (refine Int.le_antisymm ?_ ?_ <;> omega) | omega))), rfl, rfl⟩) dX3_isRowOfCells_98
        · rw [eq2 (a := r_13) (b := cw) (A := r_13.toInt) (B := cw.toInt) rfl rfl] at c_17
          refine lv_iconst (v := (0)) S.1 S.2.1 dX3_isRowOfCells_52 (by decide) ?_
          have hP := hP.sub (ws' := [(rd, .inr (3, [.ref tp, .ref ct, .int fn, .int fpl])), (tp, .inr (5, [.ref by_, .int tz, .int ts, .int ta, .int tb, .int tv])), (by_, .inl (cI, 400, .inl f)), (ct, .inr (1, [.int cw, .int ch, .int cp, .ref aCells, .ref aPrices, .ref aFree, .ref aPlaces, .ref aHomes, .ref aManners, .ref aGone, .ref aPaid, .ref aBlinks]))]) [0, 3, 1, 2] rfl
          have hD := hD.sub (ws' := [(rd, .inr (3, [.ref tp, .ref ct, .int fn, .int fpl])), (tp, .inr (5, [.ref by_, .int tz, .int ts, .int ta, .int tb, .int tv])), (by_, .inl (cI, 400, .inl f)), (ct, .inr (1, [.int cw, .int ch, .int cp, .ref aCells, .ref aPrices, .ref aFree, .ref aPlaces, .ref aHomes, .ref aManners, .ref aGone, .ref aPaid, .ref aBlinks]))]) [0, 3, 1, 2] (by decide) rfl
          exact b_zret S.1 S.2.1 X.2.1 X.2.2.1 rfl hP hD hS (Or.inr (⟨(isC_n ht3 (by first | exact Or.inl (by assumption) | exact Or.inr (Or.inl (by first | (refine Int.le_antisymm ?_ ?_ <;> omega) | omega)) | exact Or.inr (Or.inr (Or.inl ⟨by omega, by omega⟩)) | exact Or.inr (Or.inr (Or.inr (fun q => clT_no q (by assumption) (by assumption) (by first | (refine Int.le_antisymm ?_ ?_ <;> omega) | omega) (by first | (refine Int.le_antisymm ?_ ?_ <;> omega) | omega)))))), rfl, rfl⟩)) dX3_isRowOfCells_53
    · rw [le2 (a := r_2) (b := 10) (A := r_2.toInt) (B := 10) rfl rfl] at c_6
      refine lv_iconst (v := (0)) S.1 S.2.1 dX3_isRowOfCells_23 (by decide) ?_
      have hP := hP.sub (ws' := [(rd, .inr (3, [.ref tp, .ref ct, .int fn, .int fpl])), (tp, .inr (5, [.ref by_, .int tz, .int ts, .int ta, .int tb, .int tv])), (by_, .inl (cI, 400, .inl f)), (ct, .inr (1, [.int cw, .int ch, .int cp, .ref aCells, .ref aPrices, .ref aFree, .ref aPlaces, .ref aHomes, .ref aManners, .ref aGone, .ref aPaid, .ref aBlinks]))]) [0, 3, 1, 2] rfl
      have hD := hD.sub (ws' := [(rd, .inr (3, [.ref tp, .ref ct, .int fn, .int fpl])), (tp, .inr (5, [.ref by_, .int tz, .int ts, .int ta, .int tb, .int tv])), (by_, .inl (cI, 400, .inl f)), (ct, .inr (1, [.int cw, .int ch, .int cp, .ref aCells, .ref aPrices, .ref aFree, .ref aPlaces, .ref aHomes, .ref aManners, .ref aGone, .ref aPaid, .ref aBlinks]))]) [0, 3, 1, 2] (by decide) rfl
      exact b_zret S.1 S.2.1 X.2.1 X.2.2.1 rfl hP hD hS (Or.inr (⟨(isC_n ht3 (by first | exact Or.inl (by assumption) | exact Or.inr (Or.inl (by first | (refine Int.le_antisymm ?_ ?_ <;> omega) | omega)) | exact Or.inr (Or.inr (Or.inl ⟨by omega, by omega⟩)) | exact Or.inr (Or.inr (Or.inr (fun q => clT_no q (by assumption) (by assumption) (by first | (refine Int.le_antisymm ?_ ?_ <;> omega) | omega) (by first | (refine Int.le_antisymm ?_ ?_ <;> omega) | omega)))))), rfl, rfl⟩)) dX3_isRowOfCells_24
