set_option maxRecDepth 20000 in
theorem ggX1_clear_J7_fill_53178 : GoodIn wsX1_clear wsJ7_fill_53178 := goodIn_r _ [12] (by decide +kernel) (by decide +kernel)
set_option maxRecDepth 20000 in
theorem gX1_clear_J7_fill_53178 : GoodIn wsX1_clear (va_wsS RX1 49 yJ7_fill_53178 wsJ7_fill_53178) := goodIn_app (goodIn_of _ (by decide +kernel)) ggX1_clear_J7_fill_53178
set_option maxRecDepth 20000 in
theorem ggX1_isMirror_X1_isCell : GoodIn wsX1_isMirror wsX1_isCell := goodIn_r _ [6, 7, 8, 9, 10, 11, 12, 13, 14, 15, 16, 17, 18, 19, 20] (by decide +kernel) (by decide +kernel)
set_option maxRecDepth 20000 in
theorem gX1_isMirror_X1_isCell : GoodIn wsX1_isMirror (wsV RX1 61 RX1 yX1_isCell wsX1_isCell) := goodIn_app (goodIn_of _ (by decide +kernel)) ggX1_isMirror_X1_isCell
set_option maxRecDepth 20000 in
theorem ggX1_isOpen_X1_isCell : GoodIn wsX1_isOpen wsX1_isCell := goodIn_r _ [6, 7, 8, 9, 10, 11, 12, 13, 14, 15, 16, 17, 18, 19, 20] (by decide +kernel) (by decide +kernel)
set_option maxRecDepth 20000 in
theorem gX1_isOpen_X1_isCell : GoodIn wsX1_isOpen (wsV RX1 61 RX1 yX1_isCell wsX1_isCell) := goodIn_app (goodIn_of _ (by decide +kernel)) ggX1_isOpen_X1_isCell
set_option maxRecDepth 20000 in
theorem ggX1_ownerOf_X1_isCell : GoodIn wsX1_ownerOf wsX1_isCell := goodIn_r _ [6, 7, 8, 9, 10, 11, 12, 13, 14, 15, 16, 17, 18, 19, 20] (by decide +kernel) (by decide +kernel)
set_option maxRecDepth 20000 in
theorem gX1_ownerOf_X1_isCell : GoodIn wsX1_ownerOf (wsV RX1 61 RX1 yX1_isCell wsX1_isCell) := goodIn_app (goodIn_of _ (by decide +kernel)) ggX1_ownerOf_X1_isCell
set_option maxRecDepth 20000 in
theorem ggX3_read_X1_clear : GoodIn wsX3_read wsX1_clear := goodIn_r _ [8, 9, 10, 11, 12, 13, 14, 15, 16, 17, 18, 19, 20, 184, 185, 186, 187, 188, 189, 190, 191, 192, 193, 194, 195] (by decide +kernel) (by decide +kernel)
set_option maxRecDepth 20000 in
theorem gX3_read_X1_clear : GoodIn wsX3_read (wsV RX3 26 RX1 yX1_clear wsX1_clear) := goodIn_app (goodIn_of _ (by decide +kernel)) ggX3_read_X1_clear
set_option maxRecDepth 20000 in
theorem ggX3_read_X3_wrong : GoodIn wsX3_read wsX3_wrong := goodIn_r _ [104, 105, 2, 106, 107, 174, 175, 176, 177, 178, 179, 180, 181, 182, 183] (by decide +kernel) (by decide +kernel)
set_option maxRecDepth 20000 in
theorem gX3_read_X3_wrong : GoodIn wsX3_read (wsV RX3 42 RX3 yX3_wrong wsX3_wrong) := goodIn_app (goodIn_of _ (by decide +kernel)) ggX3_read_X3_wrong
set_option maxRecDepth 20000 in
theorem ggX3_read_X5_isWord : GoodIn wsX3_read wsX5_isWord := goodIn_r _ [46, 34, 32, 33, 47, 48, 49, 24, 50, 26, 51, 52, 53, 54, 55, 56, 57, 58, 59, 60, 61, 62, 63, 64, 65, 66, 67, 68, 69, 70, 71, 72, 73, 74, 75, 76, 77, 78, 79, 80, 81, 82, 83, 84, 85, 86, 87, 88, 89, 90, 91, 92, 93, 94, 95, 96, 97, 98, 99, 178, 179, 180, 181, 182, 183] (by decide +kernel) (by decide +kernel)
set_option maxRecDepth 20000 in
theorem gX3_read_X5_isWord : GoodIn wsX3_read (wsV RX3 38 RX5 yX5_isWord wsX5_isWord) := goodIn_app (goodIn_of _ (by decide +kernel)) ggX3_read_X5_isWord
set_option maxRecDepth 20000 in
theorem ggX3_read_X5_rewind : GoodIn wsX3_read wsX5_rewind := goodIn_r _ [25, 26, 27, 28, 29, 24, 30, 31, 32, 33, 34, 35, 36, 37, 38, 39, 40, 41, 42, 178, 179, 180, 181, 182, 183] (by decide +kernel) (by decide +kernel)
set_option maxRecDepth 20000 in
theorem gX3_read_X5_rewind : GoodIn wsX3_read (wsV RX3 31 RX5 yX5_rewind wsX5_rewind) := goodIn_app (goodIn_of _ (by decide +kernel)) ggX3_read_X5_rewind
set_option maxRecDepth 20000 in
theorem ggX4_begin_J7_fill_53178 : GoodIn wsX4_begin wsJ7_fill_53178 := goodIn_r _ [7] (by decide +kernel) (by decide +kernel)
set_option maxRecDepth 20000 in
theorem gX4_begin_J7_fill_53178 : GoodIn wsX4_begin (va_wsS RX4 22 yJ7_fill_53178 wsJ7_fill_53178) := goodIn_app (goodIn_of _ (by decide +kernel)) ggX4_begin_J7_fill_53178
set_option maxRecDepth 20000 in
theorem ggX5_rewind_X5_advance : GoodIn wsX5_rewind wsX5_advance := goodIn_r _ [6, 1, 7, 8, 9, 10, 11, 12, 5, 13, 14, 15, 16, 17, 18, 19, 20, 21, 22, 23, 24] (by decide +kernel) (by decide +kernel)
set_option maxRecDepth 20000 in
theorem gX5_rewind_X5_advance : GoodIn wsX5_rewind (wsV RX5 29 RX5 yX5_advance wsX5_advance) := goodIn_app (goodIn_of _ (by decide +kernel)) ggX5_rewind_X5_advance
theorem dJ7_fill_53178_0 : decode cJ7_fill_53178 0 = .ok (.iconst 0, 1) := by decide +kernel
theorem dJ7_fill_53178_1 : decode cJ7_fill_53178 1 = .ok (.istore_n 2, 1) := by decide +kernel
theorem dJ7_fill_53178_10 : decode cJ7_fill_53178 10 = .ok (.aload_n 0, 1) := by decide +kernel
theorem dJ7_fill_53178_11 : decode cJ7_fill_53178 11 = .ok (.iload_n 2, 1) := by decide +kernel
theorem dJ7_fill_53178_12 : decode cJ7_fill_53178 12 = .ok (.iload_n 1, 1) := by decide +kernel
theorem dJ7_fill_53178_13 : decode cJ7_fill_53178 13 = .ok (.iastore, 1) := by decide +kernel
theorem dJ7_fill_53178_14 : decode cJ7_fill_53178 14 = .ok (.iinc 2 1, 3) := by decide +kernel
theorem dJ7_fill_53178_17 : decode cJ7_fill_53178 17 = .ok (.goto (-12), 3) := by decide +kernel
theorem dJ7_fill_53178_2 : decode cJ7_fill_53178 2 = .ok (.aload_n 0, 1) := by decide +kernel
theorem dJ7_fill_53178_20 : decode cJ7_fill_53178 20 = .ok (.return_, 1) := by decide +kernel
theorem dJ7_fill_53178_3 : decode cJ7_fill_53178 3 = .ok (.arraylength, 1) := by decide +kernel
theorem dJ7_fill_53178_4 : decode cJ7_fill_53178 4 = .ok (.istore_n 3, 1) := by decide +kernel
theorem dJ7_fill_53178_5 : decode cJ7_fill_53178 5 = .ok (.iload_n 2, 1) := by decide +kernel
theorem dJ7_fill_53178_6 : decode cJ7_fill_53178 6 = .ok (.iload_n 3, 1) := by decide +kernel
theorem dJ7_fill_53178_7 : decode cJ7_fill_53178 7 = .ok (.if_icmp .ge 13, 3) := by decide +kernel
theorem dX1_clear_0 : decode cX1_clear 0 = .ok (.aload_n 0, 1) := by decide +kernel
theorem dX1_clear_1 : decode cX1_clear 1 = .ok (.iconst 0, 1) := by decide +kernel
theorem dX1_clear_10 : decode cX1_clear 10 = .ok (.aload_n 0, 1) := by decide +kernel
theorem dX1_clear_11 : decode cX1_clear 11 = .ok (.iconst 0, 1) := by decide +kernel
theorem dX1_clear_12 : decode cX1_clear 12 = .ok (.putfield 18, 3) := by decide +kernel
theorem dX1_clear_15 : decode cX1_clear 15 = .ok (.aload_n 0, 1) := by decide +kernel
theorem dX1_clear_16 : decode cX1_clear 16 = .ok (.getfield 25, 3) := by decide +kernel
theorem dX1_clear_19 : decode cX1_clear 19 = .ok (.iconst 0, 1) := by decide +kernel
theorem dX1_clear_2 : decode cX1_clear 2 = .ok (.putfield 9, 3) := by decide +kernel
theorem dX1_clear_20 : decode cX1_clear 20 = .ok (.invokestatic 49, 3) := by decide +kernel
theorem dX1_clear_23 : decode cX1_clear 23 = .ok (.aload_n 0, 1) := by decide +kernel
theorem dX1_clear_24 : decode cX1_clear 24 = .ok (.getfield 28, 3) := by decide +kernel
theorem dX1_clear_27 : decode cX1_clear 27 = .ok (.iconst 0, 1) := by decide +kernel
theorem dX1_clear_28 : decode cX1_clear 28 = .ok (.invokestatic 49, 3) := by decide +kernel
theorem dX1_clear_31 : decode cX1_clear 31 = .ok (.aload_n 0, 1) := by decide +kernel
theorem dX1_clear_32 : decode cX1_clear 32 = .ok (.getfield 40, 3) := by decide +kernel
theorem dX1_clear_35 : decode cX1_clear 35 = .ok (.iconst 0, 1) := by decide +kernel
theorem dX1_clear_36 : decode cX1_clear 36 = .ok (.invokestatic 49, 3) := by decide +kernel
theorem dX1_clear_39 : decode cX1_clear 39 = .ok (.aload_n 0, 1) := by decide +kernel
theorem dX1_clear_40 : decode cX1_clear 40 = .ok (.getfield 43, 3) := by decide +kernel
theorem dX1_clear_43 : decode cX1_clear 43 = .ok (.iconst 0, 1) := by decide +kernel
theorem dX1_clear_44 : decode cX1_clear 44 = .ok (.invokestatic 49, 3) := by decide +kernel
theorem dX1_clear_47 : decode cX1_clear 47 = .ok (.aload_n 0, 1) := by decide +kernel
theorem dX1_clear_48 : decode cX1_clear 48 = .ok (.getfield 46, 3) := by decide +kernel
theorem dX1_clear_5 : decode cX1_clear 5 = .ok (.aload_n 0, 1) := by decide +kernel
theorem dX1_clear_51 : decode cX1_clear 51 = .ok (.iconst 0, 1) := by decide +kernel
theorem dX1_clear_52 : decode cX1_clear 52 = .ok (.invokestatic 49, 3) := by decide +kernel
theorem dX1_clear_55 : decode cX1_clear 55 = .ok (.return_, 1) := by decide +kernel
theorem dX1_clear_6 : decode cX1_clear 6 = .ok (.iconst 0, 1) := by decide +kernel
theorem dX1_clear_7 : decode cX1_clear 7 = .ok (.putfield 15, 3) := by decide +kernel
theorem dX1_isCell_0 : decode cX1_isCell 0 = .ok (.iload_n 1, 1) := by decide +kernel
theorem dX1_isCell_1 : decode cX1_isCell 1 = .ok (.ifCond .lt 29, 3) := by decide +kernel
theorem dX1_isCell_12 : decode cX1_isCell 12 = .ok (.if_icmp .ge 18, 3) := by decide +kernel
theorem dX1_isCell_30 : decode cX1_isCell 30 = .ok (.iconst 0, 1) := by decide +kernel
theorem dX1_isCell_31 : decode cX1_isCell 31 = .ok (.ireturn, 1) := by decide +kernel
theorem dX1_isCell_4 : decode cX1_isCell 4 = .ok (.iload_n 1, 1) := by decide +kernel
theorem dX1_isCell_5 : decode cX1_isCell 5 = .ok (.bipush 10, 2) := by decide +kernel
theorem dX1_isCell_7 : decode cX1_isCell 7 = .ok (.irem, 1) := by decide +kernel
theorem dX1_isCell_8 : decode cX1_isCell 8 = .ok (.aload_n 0, 1) := by decide +kernel
theorem dX1_isCell_9 : decode cX1_isCell 9 = .ok (.getfield 9, 3) := by decide +kernel
theorem dX1_isMirror_0 : decode cX1_isMirror 0 = .ok (.aload_n 0, 1) := by decide +kernel
theorem dX1_isMirror_1 : decode cX1_isMirror 1 = .ok (.iload_n 1, 1) := by decide +kernel
theorem dX1_isMirror_2 : decode cX1_isMirror 2 = .ok (.invokevirtual 61, 3) := by decide +kernel
theorem dX1_isMirror_22 : decode cX1_isMirror 22 = .ok (.iconst 0, 1) := by decide +kernel
theorem dX1_isMirror_23 : decode cX1_isMirror 23 = .ok (.ireturn, 1) := by decide +kernel
theorem dX1_isMirror_5 : decode cX1_isMirror 5 = .ok (.ifCond .eq 17, 3) := by decide +kernel
theorem dX1_isNone_0 : decode cX1_isNone 0 = .ok (.aload_n 0, 1) := by decide +kernel
theorem dX1_isNone_1 : decode cX1_isNone 1 = .ok (.getfield 9, 3) := by decide +kernel
theorem dX1_isNone_12 : decode cX1_isNone 12 = .ok (.ireturn, 1) := by decide +kernel
theorem dX1_isNone_4 : decode cX1_isNone 4 = .ok (.ifCond .ne 7, 3) := by decide +kernel
theorem dX1_isNone_7 : decode cX1_isNone 7 = .ok (.iconst 1, 1) := by decide +kernel
theorem dX1_isNone_8 : decode cX1_isNone 8 = .ok (.goto 4, 3) := by decide +kernel
theorem dX1_isOpen_0 : decode cX1_isOpen 0 = .ok (.aload_n 0, 1) := by decide +kernel
theorem dX1_isOpen_1 : decode cX1_isOpen 1 = .ok (.iload_n 1, 1) := by decide +kernel
theorem dX1_isOpen_2 : decode cX1_isOpen 2 = .ok (.invokevirtual 61, 3) := by decide +kernel
theorem dX1_isOpen_21 : decode cX1_isOpen 21 = .ok (.iconst 0, 1) := by decide +kernel
theorem dX1_isOpen_22 : decode cX1_isOpen 22 = .ok (.ireturn, 1) := by decide +kernel
theorem dX1_isOpen_5 : decode cX1_isOpen 5 = .ok (.ifCond .eq 16, 3) := by decide +kernel
theorem dX1_ownerOf_0 : decode cX1_ownerOf 0 = .ok (.aload_n 0, 1) := by decide +kernel
theorem dX1_ownerOf_1 : decode cX1_ownerOf 1 = .ok (.iload_n 1, 1) := by decide +kernel
theorem dX1_ownerOf_2 : decode cX1_ownerOf 2 = .ok (.invokevirtual 61, 3) := by decide +kernel
theorem dX1_ownerOf_29 : decode cX1_ownerOf 29 = .ok (.bipush 6, 2) := by decide +kernel
theorem dX1_ownerOf_31 : decode cX1_ownerOf 31 = .ok (.ireturn, 1) := by decide +kernel
theorem dX1_ownerOf_5 : decode cX1_ownerOf 5 = .ok (.ifCond .eq 24, 3) := by decide +kernel
theorem dX3_read_0 : decode cX3_read 0 = .ok (.aload_n 0, 1) := by decide +kernel
theorem dX3_read_1 : decode cX3_read 1 = .ok (.getfield 22, 3) := by decide +kernel
theorem dX3_read_11 : decode cX3_read 11 = .ok (.invokevirtual 31, 3) := by decide +kernel
theorem dX3_read_14 : decode cX3_read 14 = .ok (.aload_n 0, 1) := by decide +kernel
theorem dX3_read_15 : decode cX3_read 15 = .ok (.getfield 18, 3) := by decide +kernel
theorem dX3_read_18 : decode cX3_read 18 = .ok (.ldc 36, 2) := by decide +kernel
theorem dX3_read_20 : decode cX3_read 20 = .ok (.invokevirtual 38, 3) := by decide +kernel
theorem dX3_read_23 : decode cX3_read 23 = .ok (.ifCond .ne 9, 3) := by decide +kernel
theorem dX3_read_26 : decode cX3_read 26 = .ok (.aload_n 0, 1) := by decide +kernel
theorem dX3_read_27 : decode cX3_read 27 = .ok (.iconst 1, 1) := by decide +kernel
theorem dX3_read_28 : decode cX3_read 28 = .ok (.invokevirtual 42, 3) := by decide +kernel
theorem dX3_read_31 : decode cX3_read 31 = .ok (.ireturn, 1) := by decide +kernel
theorem dX3_read_4 : decode cX3_read 4 = .ok (.invokevirtual 26, 3) := by decide +kernel
theorem dX3_read_7 : decode cX3_read 7 = .ok (.aload_n 0, 1) := by decide +kernel
theorem dX3_read_8 : decode cX3_read 8 = .ok (.getfield 18, 3) := by decide +kernel
theorem dX3_wrong_0 : decode cX3_wrong 0 = .ok (.aload_n 0, 1) := by decide +kernel
theorem dX3_wrong_1 : decode cX3_wrong 1 = .ok (.iload_n 1, 1) := by decide +kernel
theorem dX3_wrong_10 : decode cX3_wrong 10 = .ok (.getfield 59, 3) := by decide +kernel
theorem dX3_wrong_13 : decode cX3_wrong 13 = .ok (.putfield 15, 3) := by decide +kernel
theorem dX3_wrong_16 : decode cX3_wrong 16 = .ok (.iconst 0, 1) := by decide +kernel
theorem dX3_wrong_17 : decode cX3_wrong 17 = .ok (.ireturn, 1) := by decide +kernel
theorem dX3_wrong_2 : decode cX3_wrong 2 = .ok (.putfield 9, 3) := by decide +kernel
theorem dX3_wrong_5 : decode cX3_wrong 5 = .ok (.aload_n 0, 1) := by decide +kernel
theorem dX3_wrong_6 : decode cX3_wrong 6 = .ok (.aload_n 0, 1) := by decide +kernel
theorem dX3_wrong_7 : decode cX3_wrong 7 = .ok (.getfield 18, 3) := by decide +kernel
theorem dX4_begin_0 : decode cX4_begin 0 = .ok (.aload_n 0, 1) := by decide +kernel
theorem dX4_begin_1 : decode cX4_begin 1 = .ok (.iload_n 1, 1) := by decide +kernel
theorem dX4_begin_10 : decode cX4_begin 10 = .ok (.aload_n 0, 1) := by decide +kernel
theorem dX4_begin_11 : decode cX4_begin 11 = .ok (.getfield 18, 3) := by decide +kernel
theorem dX4_begin_14 : decode cX4_begin 14 = .ok (.iconst 0, 1) := by decide +kernel
theorem dX4_begin_15 : decode cX4_begin 15 = .ok (.invokestatic 22, 3) := by decide +kernel
theorem dX4_begin_18 : decode cX4_begin 18 = .ok (.return_, 1) := by decide +kernel
theorem dX4_begin_2 : decode cX4_begin 2 = .ok (.putfield 11, 3) := by decide +kernel
theorem dX4_begin_5 : decode cX4_begin 5 = .ok (.aload_n 0, 1) := by decide +kernel
theorem dX4_begin_6 : decode cX4_begin 6 = .ok (.iload_n 2, 1) := by decide +kernel
theorem dX4_begin_7 : decode cX4_begin 7 = .ok (.putfield 15, 3) := by decide +kernel
theorem dX5_advance_0 : decode cX5_advance 0 = .ok (.aload_n 0, 1) := by decide +kernel
theorem dX5_advance_1 : decode cX5_advance 1 = .ok (.getfield 23, 3) := by decide +kernel
theorem dX5_advance_4 : decode cX5_advance 4 = .ok (.aload_n 0, 1) := by decide +kernel
theorem dX5_advance_5 : decode cX5_advance 5 = .ok (.getfield 13, 3) := by decide +kernel
theorem dX5_advance_52 : decode cX5_advance 52 = .ok (.aload_n 0, 1) := by decide +kernel
theorem dX5_advance_53 : decode cX5_advance 53 = .ok (.aload_n 0, 1) := by decide +kernel
theorem dX5_advance_54 : decode cX5_advance 54 = .ok (.getfield 23, 3) := by decide +kernel
theorem dX5_advance_57 : decode cX5_advance 57 = .ok (.putfield 20, 3) := by decide +kernel
theorem dX5_advance_60 : decode cX5_advance 60 = .ok (.aload_n 0, 1) := by decide +kernel
theorem dX5_advance_61 : decode cX5_advance 61 = .ok (.getfield 20, 3) := by decide +kernel
theorem dX5_advance_64 : decode cX5_advance 64 = .ok (.aload_n 0, 1) := by decide +kernel
theorem dX5_advance_65 : decode cX5_advance 65 = .ok (.getfield 13, 3) := by decide +kernel
theorem dX5_advance_68 : decode cX5_advance 68 = .ok (.if_icmp .lt 9, 3) := by decide +kernel
theorem dX5_advance_71 : decode cX5_advance 71 = .ok (.aload_n 0, 1) := by decide +kernel
theorem dX5_advance_72 : decode cX5_advance 72 = .ok (.iconst 0, 1) := by decide +kernel
theorem dX5_advance_73 : decode cX5_advance 73 = .ok (.putfield 17, 3) := by decide +kernel
theorem dX5_advance_76 : decode cX5_advance 76 = .ok (.return_, 1) := by decide +kernel
theorem dX5_advance_8 : decode cX5_advance 8 = .ok (.if_icmp .ge 44, 3) := by decide +kernel
theorem dX5_hasRoom_0 : decode cX5_hasRoom 0 = .ok (.iload_n 1, 1) := by decide +kernel
theorem dX5_hasRoom_1 : decode cX5_hasRoom 1 = .ok (.sipush 400, 3) := by decide +kernel
theorem dX5_hasRoom_12 : decode cX5_hasRoom 12 = .ok (.iconst 1, 1) := by decide +kernel
theorem dX5_hasRoom_13 : decode cX5_hasRoom 13 = .ok (.goto 4, 3) := by decide +kernel
theorem dX5_hasRoom_17 : decode cX5_hasRoom 17 = .ok (.ireturn, 1) := by decide +kernel
theorem dX5_hasRoom_4 : decode cX5_hasRoom 4 = .ok (.aload_n 0, 1) := by decide +kernel
theorem dX5_hasRoom_5 : decode cX5_hasRoom 5 = .ok (.getfield 13, 3) := by decide +kernel
theorem dX5_hasRoom_8 : decode cX5_hasRoom 8 = .ok (.isub, 1) := by decide +kernel
theorem dX5_hasRoom_9 : decode cX5_hasRoom 9 = .ok (.if_icmp .gt 7, 3) := by decide +kernel
theorem dX5_isWord_0 : decode cX5_isWord 0 = .ok (.aload_n 0, 1) := by decide +kernel
theorem dX5_isWord_1 : decode cX5_isWord 1 = .ok (.getfield 17, 3) := by decide +kernel
theorem dX5_isWord_19 : decode cX5_isWord 19 = .ok (.iconst 0, 1) := by decide +kernel
theorem dX5_isWord_20 : decode cX5_isWord 20 = .ok (.ireturn, 1) := by decide +kernel
theorem dX5_isWord_4 : decode cX5_isWord 4 = .ok (.iconst 1, 1) := by decide +kernel
theorem dX5_isWord_5 : decode cX5_isWord 5 = .ok (.if_icmp .ne 14, 3) := by decide +kernel
theorem dX5_rewind_0 : decode cX5_rewind 0 = .ok (.aload_n 0, 1) := by decide +kernel
theorem dX5_rewind_1 : decode cX5_rewind 1 = .ok (.iconst 0, 1) := by decide +kernel
theorem dX5_rewind_2 : decode cX5_rewind 2 = .ok (.putfield 23, 3) := by decide +kernel
theorem dX5_rewind_5 : decode cX5_rewind 5 = .ok (.aload_n 0, 1) := by decide +kernel
theorem dX5_rewind_6 : decode cX5_rewind 6 = .ok (.invokevirtual 29, 3) := by decide +kernel
theorem dX5_rewind_9 : decode cX5_rewind 9 = .ok (.return_, 1) := by decide +kernel
theorem jX1_clear_X1 : ∀ w ∈ u_ws RX1 TX1 12, w ∈ wsX1_clear := fun w h => List.mem_cons_of_mem _ (List.mem_append_right _ h)
theorem jX1_isCell_X1 : ∀ w ∈ u_ws RX1 TX1 12, w ∈ wsX1_isCell := fun w h => List.mem_cons_of_mem _ (List.mem_append_right _ h)
theorem jX1_isNone_X1 : ∀ w ∈ u_ws RX1 TX1 12, w ∈ wsX1_isNone := fun w h => List.mem_cons_of_mem _ (List.mem_append_right _ h)
theorem jX3_read_X3 : ∀ w ∈ u_ws RX3 TX3 4, w ∈ wsX3_read := fun w h => List.mem_cons_of_mem _ (List.mem_append_left _ (List.mem_append_left _ (List.mem_append_right _ h)))
theorem jX3_wrong_X3 : ∀ w ∈ u_ws RX3 TX3 4, w ∈ wsX3_wrong := fun w h => List.mem_cons_of_mem _ (List.mem_append_left _ (List.mem_append_right _ h))
theorem jX3_wrong_X5 : ∀ w ∈ u_ws RX5 TX5 6, w ∈ wsX3_wrong := fun w h => List.mem_cons_of_mem _ (List.mem_append_right _ h)
theorem jX4_begin_X4 : ∀ w ∈ u_ws RX4 TX4 3, w ∈ wsX4_begin := fun w h => List.mem_cons_of_mem _ (List.mem_append_right _ h)
theorem jX5_advance_X5 : ∀ w ∈ u_ws RX5 TX5 6, w ∈ wsX5_advance := fun w h => List.mem_cons_of_mem _ (List.mem_append_right _ h)
theorem jX5_hasRoom_X5 : ∀ w ∈ u_ws RX5 TX5 6, w ∈ wsX5_hasRoom := fun w h => List.mem_cons_of_mem _ (List.mem_append_right _ h)
theorem jX5_isWord_X5 : ∀ w ∈ u_ws RX5 TX5 6, w ∈ wsX5_isWord := fun w h => List.mem_cons_of_mem _ (List.mem_append_right _ h)
theorem jX5_rewind_X5 : ∀ w ∈ u_ws RX5 TX5 6, w ∈ wsX5_rewind := fun w h => List.mem_cons_of_mem _ (List.mem_append_right _ h)
theorem hdS_J7_fill_53178 : yJ7_fill_53178.cls ≠ "java/lang/invoke/MethodHandle" ∧ yJ7_fill_53178.cls ≠ "java/lang/invoke/VarHandle" ∧ (parseMethodDescriptor yJ7_fill_53178.desc).map (fun d => d.parameters.length) = some 2 := by decide +kernel
theorem hdV_X1_clear : yX1_clear.cls = RX1 ∧ yX1_clear.cls ≠ "java/lang/invoke/MethodHandle" ∧ yX1_clear.cls ≠ "java/lang/invoke/VarHandle" ∧ (parseMethodDescriptor yX1_clear.desc).map (fun d => d.parameters.length) = some 0 := by decide +kernel
theorem hdV_X1_isCell : yX1_isCell.cls = RX1 ∧ yX1_isCell.cls ≠ "java/lang/invoke/MethodHandle" ∧ yX1_isCell.cls ≠ "java/lang/invoke/VarHandle" ∧ (parseMethodDescriptor yX1_isCell.desc).map (fun d => d.parameters.length) = some 1 := by decide +kernel
theorem hdV_X3_wrong : yX3_wrong.cls = RX3 ∧ yX3_wrong.cls ≠ "java/lang/invoke/MethodHandle" ∧ yX3_wrong.cls ≠ "java/lang/invoke/VarHandle" ∧ (parseMethodDescriptor yX3_wrong.desc).map (fun d => d.parameters.length) = some 1 := by decide +kernel
theorem hdV_X5_advance : yX5_advance.cls = RX5 ∧ yX5_advance.cls ≠ "java/lang/invoke/MethodHandle" ∧ yX5_advance.cls ≠ "java/lang/invoke/VarHandle" ∧ (parseMethodDescriptor yX5_advance.desc).map (fun d => d.parameters.length) = some 0 := by decide +kernel
theorem hdV_X5_isWord : yX5_isWord.cls = RX5 ∧ yX5_isWord.cls ≠ "java/lang/invoke/MethodHandle" ∧ yX5_isWord.cls ≠ "java/lang/invoke/VarHandle" ∧ (parseMethodDescriptor yX5_isWord.desc).map (fun d => d.parameters.length) = some 1 := by decide +kernel
theorem hdV_X5_rewind : yX5_rewind.cls = RX5 ∧ yX5_rewind.cls ≠ "java/lang/invoke/MethodHandle" ∧ yX5_rewind.cls ≠ "java/lang/invoke/VarHandle" ∧ (parseMethodDescriptor yX5_rewind.desc).map (fun d => d.parameters.length) = some 0 := by decide +kernel
set_option maxHeartbeats 4000000 in
set_option maxRecDepth 100000 in
theorem lp_fill {p : Program} {l : Launch} {e : Env} {s : State} {m : MethodId} {below : List Frame} {meth : Method} {c : Code} {D : va_G} {cI cZ cC cS : ClassId} {sq a n : Nat} (hn : n < 2 ^ 31) {A : Nat → Prop} (X : bX p s m meth c cJ7_fill_53178 4 wsJ7_fill_53178 yJ7_fill_53178 none [.ref a, .int 0]) (hK : kW D (tyW cI cZ cC cS) sq s) :
    ∀ (k i : Nat), i + k = n → ∀ (H : Heap) (locs : List Loc) (ls : Array Slot) (f : Nat → Int32), va_P D vwCl [(a, .inl (cI, n, .inl f))] H → va_D A [(a, .inl (cI, n, .inl f))] → va_S A s.heap H locs → lv_has ls 4 [(3, .int (nI n)), (2, .int (nI i)), (0, .ref a), (1, .int 0)] →
      W p l e (rmW 0 0 0 0) s m ([.ref a, .int 0] : List Value).toArray below meth c H locs 0 0 (MQ below (va_Qv (fun w => ∃ (f2 : Nat → Int32), w = [(a, .inl (cI, n, .inl f2))]) (wD D A) A) ([.ref a, .int 0] : List Value).toArray s 0 0 A) (F0 m 5 ls []) := by
  have S : CallFix p m c cJ7_fill_53178 4 s ([.ref a, .int 0] : List Value).toArray wsJ7_fill_53178 RJ7 := X.1
  intro k
  induction k with
  | zero =>
    intro i hi H locs ls f hP hD hS hl
    have hi : i = n := by omega
    subst hi
    refine lv_iload_n S.1 S.2.1 dJ7_fill_53178_5 rfl (lv_at hl 1 rfl) ?_
    refine lv_iload_n S.1 S.2.1 dJ7_fill_53178_6 rfl (lv_at hl 0 rfl) ?_
    refine lv_icmp_ge (tgt := 20) S.1 S.2.1 dJ7_fill_53178_7 (by decide) (fun c1 => ?_) (fun c1 => absurd (nI_le (Nat.le_refl _) hn) c1)
    exact b_vret S.1 S.2.1 X.2.1 X.2.2.1 hP hD hS ⟨f, rfl⟩ dJ7_fill_53178_20
  | succ k ih =>
    intro i hi H locs ls f hP hD hS hl
    have hlt : i < n := by omega
    refine lv_iload_n S.1 S.2.1 dJ7_fill_53178_5 rfl (lv_at hl 1 rfl) ?_
    refine lv_iload_n S.1 S.2.1 dJ7_fill_53178_6 rfl (lv_at hl 0 rfl) ?_
    refine lv_icmp_ge (tgt := 20) S.1 S.2.1 dJ7_fill_53178_7 (by decide) (fun c1 => absurd c1 (nI_ge hlt hn)) (fun c1 => ?_)
    refine lv_aload_n S.1 S.2.1 dJ7_fill_53178_10 rfl (lv_at hl 2 rfl) ?_
    refine lv_iload_n S.1 S.2.1 dJ7_fill_53178_11 rfl (lv_at hl 1 rfl) ?_
    refine lv_iload_n S.1 S.2.1 dJ7_fill_53178_12 rfl (lv_at hl 3 rfl) ?_
    refine va_iast S.1 S.2.1 hK.1 hP hD hS 0 0 rfl rfl (nI_in hlt hn) dJ7_fill_53178_13 (fun H locs hP hD hS => ?_)
    refine lv_iinc (v := nI (i + 1)) (lv' := [(2, .int (nI (i + 1))), (3, .int (nI n)), (0, .ref a), (1, .int 0)]) S.1 S.2.1 dJ7_fill_53178_14 hl (k := 1) rfl (nI_1 i) (by decide) rfl (fun ls hl => ?_)
    refine lv_goto (tgt := 5) S.1 S.2.1 dJ7_fill_53178_17 (by decide) ?_
    exact ih (i + 1) (by omega) H locs ls _ hP hD hS (lv_sub hl [1, 0, 2, 3] rfl)
set_option maxHeartbeats 4000000 in
set_option maxRecDepth 100000 in
theorem c_fill (l : Launch) (D : va_G) (cI cZ cC cS : ClassId) (sq sz : Nat) (n : Nat) (hn : n < 2 ^ 31) (a : Nat) (f : Nat → Int32) : mV l yJ7_fill_53178 wsJ7_fill_53178 0 0 0 0 D (tyW cI cZ cC cS) sq [(a, .inl (cI, n, .inl f))] sz [.ref a, .int 0] (fun w => ∃ (f2 : Nat → Int32), w = [(a, .inl (cI, n, .inl f2))]) := by
  refine b_metV (cc := cJ7_fill_53178) (maxL := 4) (ret := none) (by decide) rfl (Nat.le_of_ble_eq_true rfl) ?_
  intro p e s m below meth c ls A H X hsz hP hK hD hA hS hl
  have S : CallFix p m c cJ7_fill_53178 4 s ([.ref a, .int 0] : List Value).toArray wsJ7_fill_53178 RJ7 := X.1
  have hl : lv_has ls 4 [(0, .ref a), (1, .int 0)] := hl
  refine lv_iconst (v := 0) S.1 S.2.1 dJ7_fill_53178_0 (by decide) ?_
  refine lv_istore_n (lv' := [(2, .int 0), (0, .ref a), (1, .int 0)]) S.1 S.2.1 dJ7_fill_53178_1 rfl hl (by decide) rfl (fun ls hl => ?_)
  refine lv_aload_n S.1 S.2.1 dJ7_fill_53178_2 rfl (lv_at hl 1 rfl) ?_
  refine va_alen (v := nI n) S.1 S.2.1 hK.1 hP 0 0 rfl rfl rfl dJ7_fill_53178_3 ?_
  refine lv_istore_n (lv' := [(3, .int (nI n)), (2, .int 0), (0, .ref a), (1, .int 0)]) S.1 S.2.1 dJ7_fill_53178_4 rfl hl (by decide) rfl (fun ls hl => ?_)
  exact lp_fill hn X hK n 0 (by omega) H _ ls f hP hD hS hl
theorem c_fill_40 (l : Launch) (D : va_G) (cI cZ cC cS : ClassId) (sq sz : Nat) (a : Nat) (f : Nat → Int32) : mV l yJ7_fill_53178 wsJ7_fill_53178 0 0 0 0 D (tyW cI cZ cC cS) sq [(a, .inl (cI, 40, .inl f))] sz [.ref a, .int 0] (fun w => ∃ (f2 : Nat → Int32), w = [(a, .inl (cI, 40, .inl f2))]) := c_fill l D cI cZ cC cS sq sz 40 (by decide) a f
theorem c_fill_6 (l : Launch) (D : va_G) (cI cZ cC cS : ClassId) (sq sz : Nat) (a : Nat) (f : Nat → Int32) : mV l yJ7_fill_53178 wsJ7_fill_53178 0 0 0 0 D (tyW cI cZ cC cS) sq [(a, .inl (cI, 6, .inl f))] sz [.ref a, .int 0] (fun w => ∃ (f2 : Nat → Int32), w = [(a, .inl (cI, 6, .inl f2))]) := c_fill l D cI cZ cC cS sq sz 6 (by decide) a f
theorem c_fill_36 (l : Launch) (D : va_G) (cI cZ cC cS : ClassId) (sq sz : Nat) (a : Nat) (f : Nat → Int32) : mV l yJ7_fill_53178 wsJ7_fill_53178 0 0 0 0 D (tyW cI cZ cC cS) sq [(a, .inl (cI, 36, .inl f))] sz [.ref a, .int 0] (fun w => ∃ (f2 : Nat → Int32), w = [(a, .inl (cI, 36, .inl f2))]) := c_fill l D cI cZ cC cS sq sz 36 (by decide) a f
set_option maxHeartbeats 4000000 in
set_option maxRecDepth 100000 in
theorem c_X4_begin (l : Launch) (D : va_G) (cI cZ cC cS : ClassId) (sq sz : Nat) (h0 : Nat) (it : Nat) (f : Nat → Int32) (ln : Int32) (n : Int32) : mV l yX4_begin wsX4_begin 1 23 0 0 D (tyW cI cZ cC cS) sq [(h0, .inr (4, [.int (-1), .int 0, .ref it])), (it, .inl (cI, 40, .inl f))] sz [.ref h0, .int ln, .int n] (fun w => ∃ (f2 : Nat → Int32), w = [(h0, .inr (4, [.int ln, .int n, .ref it])), (it, .inl (cI, 40, .inl f2))]) := by
  refine b_metV (cc := cX4_begin) (maxL := 3) (ret := none) (by decide) rfl (Nat.le_of_ble_eq_true rfl) ?_
  intro p e s m below meth c ls A H X hsz hP hK hD hA hS hl
  have S : CallFix p m c cX4_begin 3 s ([.ref h0, .int ln, .int n] : List Value).toArray wsX4_begin RX4 := X.1
  have hl : lv_has ls 3 [(0, .ref h0), (1, .int ln), (2, .int n)] := hl
  have iX4 := jX4_begin_X4
  refine lv_aload_n S.1 S.2.1 dX4_begin_0 rfl (lv_at hl 0 rfl) ?_
  refine lv_iload_n S.1 S.2.1 dX4_begin_1 rfl (lv_at hl 1 rfl) ?_
  refine b_put (v := .int ln) S iX4 tyX4 tyX4_ok nmX4 hK hP hD hS 0 rfl rfl 0 (by decide) (by decide +kernel) rfl rfl rfl (Nat.le_of_ble_eq_true rfl) dX4_begin_2 (fun H locs hP hD hS => ?_)
  have hP : va_P D vwCl [(h0, .inr (4, [.int ln, .int 0, .ref it])), (it, .inl (cI, 40, .inl f))] H := hP
  have hD : va_D A [(h0, .inr (4, [.int ln, .int 0, .ref it])), (it, .inl (cI, 40, .inl f))] := hD
  refine lv_aload_n S.1 S.2.1 dX4_begin_5 rfl (lv_at hl 0 rfl) ?_
  refine lv_iload_n S.1 S.2.1 dX4_begin_6 rfl (lv_at hl 2 rfl) ?_
  refine b_put (v := .int n) S iX4 tyX4 tyX4_ok nmX4 hK hP hD hS 0 rfl rfl 1 (by decide) (by decide +kernel) rfl rfl rfl (Nat.le_of_ble_eq_true rfl) dX4_begin_7 (fun H locs hP hD hS => ?_)
  have hP : va_P D vwCl [(h0, .inr (4, [.int ln, .int n, .ref it])), (it, .inl (cI, 40, .inl f))] H := hP
  have hD : va_D A [(h0, .inr (4, [.int ln, .int n, .ref it])), (it, .inl (cI, 40, .inl f))] := hD
  refine lv_aload_n S.1 S.2.1 dX4_begin_10 rfl (lv_at hl 0 rfl) ?_
  refine b_get (v := .ref it) S iX4 hK hP 0 rfl rfl 2 (by decide) (by decide +kernel) rfl dX4_begin_11 ?_
  refine lv_iconst (v := 0) S.1 S.2.1 dX4_begin_14 (by decide) ?_
  refine b_av (wr := [(h0, .inr (4, [.int ln, .int n, .ref it]))]) (b_runS (As := [.ref it, .int 0]) (c_fill_40 l D cI cZ cC cS sq H.size it f) S gX4_begin_J7_fill_53178 rfl hdS_J7_fill_53178 ⟨Nat.le_of_ble_eq_true rfl, Nat.le_of_ble_eq_true rfl⟩ ⟨Nat.le_of_ble_eq_true rfl, Nat.le_of_ble_eq_true rfl⟩ hK hP hD [1] rfl (by decide) rfl hl.1 rfl (Nat.le_of_ble_eq_true rfl) dX4_begin_15) hP hD hS hA [1] [0] rfl rfl (by decide) (by decide) (fun w_2 H locs hw_3 hP hD hS => ?_)
  obtain ⟨f2_4, rfl⟩ := hw_3
  have hP : va_P D vwCl [(h0, .inr (4, [.int ln, .int n, .ref it])), (it, .inl (cI, 40, .inl f2_4))] H := hP
  have hD : va_D A [(h0, .inr (4, [.int ln, .int n, .ref it])), (it, .inl (cI, 40, .inl f2_4))] := hD
  exact b_vret S.1 S.2.1 X.2.1 X.2.2.1 hP hD hS ⟨f2_4, rfl⟩ dX4_begin_18
set_option maxHeartbeats 4000000 in
set_option maxRecDepth 100000 in
theorem c_X5_hasRoom (l : Launch) (D : va_G) (cI cZ cC cS : ClassId) (sq sz : Nat) (tp : Nat) (by_ : Nat) (n : Int32) (hn : n.toInt ≤ 8) : mI l yX5_hasRoom wsX5_hasRoom 0 0 D (tyW cI cZ cC cS) sq [(tp, .inr (5, [.ref by_, .int 0, .int 0, .int 0, .int 0, .int 0]))] sz [.ref tp, .int n] (fun r w => r = 1 ∧ w = [(tp, .inr (5, [.ref by_, .int 0, .int 0, .int 0, .int 0, .int 0]))]) := by
  refine b_metI (cc := cX5_hasRoom) (maxL := 2) (ret := (some .boolean)) (by decide) rfl (Nat.le_of_ble_eq_true rfl) ?_
  intro p e s m below meth c ls A H X hsz hP hK hD hA hS hl
  have S : CallFix p m c cX5_hasRoom 2 s ([.ref tp, .int n] : List Value).toArray wsX5_hasRoom RX5 := X.1
  have hl : lv_has ls 2 [(0, .ref tp), (1, .int n)] := hl
  have iX5 := jX5_hasRoom_X5
  refine lv_iload_n S.1 S.2.1 dX5_hasRoom_0 rfl (lv_at hl 1 rfl) ?_
  refine lv_sipush (v := 400) S.1 S.2.1 dX5_hasRoom_1 (by decide) ?_
  refine lv_aload_n S.1 S.2.1 dX5_hasRoom_4 rfl (lv_at hl 0 rfl) ?_
  refine b_get (v := .int 0) S iX5 hK hP 0 rfl rfl 1 (by decide) (by decide +kernel) rfl dX5_hasRoom_5 ?_
  refine lv_isub S.1 S.2.1 dX5_hasRoom_8 ?_
  refine lv_topi (fun x_1 ex_1 => ?_)
  have ex_1 : x_1 = 400 := by rw [ex_1]; decide
  subst ex_1
  refine lv_icmp_gt (tgt := 16) S.1 S.2.1 dX5_hasRoom_9 (by decide) (fun c_2 => (by exfalso; have z := c_2; rw [c_gt (N := 400) rfl] at z; omega)) (fun c_2 => ?_)
  refine lv_iconst (v := 1) S.1 S.2.1 dX5_hasRoom_12 (by decide) ?_
  refine lv_goto (tgt := 17) S.1 S.2.1 dX5_hasRoom_13 (by decide) ?_
  exact b_zret S.1 S.2.1 X.2.1 X.2.2.1 rfl hP hD hS ⟨rfl, rfl⟩ dX5_hasRoom_17
set_option maxHeartbeats 4000000 in
set_option maxRecDepth 100000 in
theorem c_X5_advance (l : Launch) (D : va_G) (cI cZ cC cS : ClassId) (sq sz : Nat) (tp : Nat) (by_ : Nat) : mV l yX5_advance wsX5_advance 0 0 0 0 D (tyW cI cZ cC cS) sq [(tp, .inr (5, [.ref by_, .int 0, .int 0, .int 0, .int 0, .int 0]))] sz [.ref tp] (fun w => w = [(tp, .inr (5, [.ref by_, .int 0, .int 0, .int 0, .int 0, .int 0]))]) := by
  refine b_metV (cc := cX5_advance) (maxL := 1) (ret := none) (by decide) rfl (Nat.le_of_ble_eq_true rfl) ?_
  intro p e s m below meth c ls A H X hsz hP hK hD hA hS hl
  have S : CallFix p m c cX5_advance 1 s ([.ref tp] : List Value).toArray wsX5_advance RX5 := X.1
  have hl : lv_has ls 1 [(0, .ref tp)] := hl
  have iX5 := jX5_advance_X5
  refine lv_aload_n S.1 S.2.1 dX5_advance_0 rfl (lv_at hl 0 rfl) ?_
  refine b_get (v := .int 0) S iX5 hK hP 0 rfl rfl 4 (by decide) (by decide +kernel) rfl dX5_advance_1 ?_
  refine lv_aload_n S.1 S.2.1 dX5_advance_4 rfl (lv_at hl 0 rfl) ?_
  refine b_get (v := .int 0) S iX5 hK hP 0 rfl rfl 1 (by decide) (by decide +kernel) rfl dX5_advance_5 ?_
  refine lv_icmp_ge (tgt := 52) S.1 S.2.1 dX5_advance_8 (by decide) (fun c_1 => ?_) (fun c_1 => absurd c_1 (by decide))
  refine lv_aload_n S.1 S.2.1 dX5_advance_52 rfl (lv_at hl 0 rfl) ?_
  refine lv_aload_n S.1 S.2.1 dX5_advance_53 rfl (lv_at hl 0 rfl) ?_
  refine b_get (v := .int 0) S iX5 hK hP 0 rfl rfl 4 (by decide) (by decide +kernel) rfl dX5_advance_54 ?_
  refine b_put (v := .int 0) S iX5 tyX5 tyX5_ok nmX5 hK hP hD hS 0 rfl rfl 3 (by decide) (by decide +kernel) rfl rfl rfl (Nat.le_of_ble_eq_true rfl) dX5_advance_57 (fun H locs hP hD hS => ?_)
  have hP : va_P D vwCl [(tp, .inr (5, [.ref by_, .int 0, .int 0, .int 0, .int 0, .int 0]))] H := hP
  have hD : va_D A [(tp, .inr (5, [.ref by_, .int 0, .int 0, .int 0, .int 0, .int 0]))] := hD
  refine lv_aload_n S.1 S.2.1 dX5_advance_60 rfl (lv_at hl 0 rfl) ?_
  refine b_get (v := .int 0) S iX5 hK hP 0 rfl rfl 3 (by decide) (by decide +kernel) rfl dX5_advance_61 ?_
  refine lv_aload_n S.1 S.2.1 dX5_advance_64 rfl (lv_at hl 0 rfl) ?_
  refine b_get (v := .int 0) S iX5 hK hP 0 rfl rfl 1 (by decide) (by decide +kernel) rfl dX5_advance_65 ?_
  refine lv_icmp_lt (tgt := 77) S.1 S.2.1 dX5_advance_68 (by decide) (fun c_2 => absurd c_2 (by decide)) (fun c_2 => ?_)
  refine lv_aload_n S.1 S.2.1 dX5_advance_71 rfl (lv_at hl 0 rfl) ?_
  refine lv_iconst (v := 0) S.1 S.2.1 dX5_advance_72 (by decide) ?_
  refine b_put (v := .int 0) S iX5 tyX5 tyX5_ok nmX5 hK hP hD hS 0 rfl rfl 2 (by decide) (by decide +kernel) rfl rfl rfl (Nat.le_of_ble_eq_true rfl) dX5_advance_73 (fun H locs hP hD hS => ?_)
  have hP : va_P D vwCl [(tp, .inr (5, [.ref by_, .int 0, .int 0, .int 0, .int 0, .int 0]))] H := hP
  have hD : va_D A [(tp, .inr (5, [.ref by_, .int 0, .int 0, .int 0, .int 0, .int 0]))] := hD
  exact b_vret S.1 S.2.1 X.2.1 X.2.2.1 hP hD hS rfl dX5_advance_76
set_option maxHeartbeats 4000000 in
set_option maxRecDepth 100000 in
theorem c_X5_rewind (l : Launch) (D : va_G) (cI cZ cC cS : ClassId) (sq sz : Nat) (tp : Nat) (by_ : Nat) : mV l yX5_rewind wsX5_rewind 1 20 0 0 D (tyW cI cZ cC cS) sq [(tp, .inr (5, [.ref by_, .int 0, .int 0, .int 0, .int 0, .int 0]))] sz [.ref tp] (fun w => w = [(tp, .inr (5, [.ref by_, .int 0, .int 0, .int 0, .int 0, .int 0]))]) := by
  refine b_metV (cc := cX5_rewind) (maxL := 1) (ret := none) (by decide) rfl (Nat.le_of_ble_eq_true rfl) ?_
  intro p e s m below meth c ls A H X hsz hP hK hD hA hS hl
  have S : CallFix p m c cX5_rewind 1 s ([.ref tp] : List Value).toArray wsX5_rewind RX5 := X.1
  have hl : lv_has ls 1 [(0, .ref tp)] := hl
  have iX5 := jX5_rewind_X5
  refine lv_aload_n S.1 S.2.1 dX5_rewind_0 rfl (lv_at hl 0 rfl) ?_
  refine lv_iconst (v := 0) S.1 S.2.1 dX5_rewind_1 (by decide) ?_
  refine b_put (v := .int 0) S iX5 tyX5 tyX5_ok nmX5 hK hP hD hS 0 rfl rfl 4 (by decide) (by decide +kernel) rfl rfl rfl (Nat.le_of_ble_eq_true rfl) dX5_rewind_2 (fun H locs hP hD hS => ?_)
  have hP : va_P D vwCl [(tp, .inr (5, [.ref by_, .int 0, .int 0, .int 0, .int 0, .int 0]))] H := hP
  have hD : va_D A [(tp, .inr (5, [.ref by_, .int 0, .int 0, .int 0, .int 0, .int 0]))] := hD
  refine lv_aload_n S.1 S.2.1 dX5_rewind_5 rfl (lv_at hl 0 rfl) ?_
  refine b_av (wr := []) (b_runV (q0 := 0) (ci := 5) (As := []) (c_X5_advance l D cI cZ cC cS sq H.size tp by_) S gX5_rewind_X5_advance rfl hdV_X5_advance ⟨Nat.le_of_ble_eq_true rfl, Nat.le_of_ble_eq_true rfl⟩ ⟨Nat.le_of_ble_eq_true rfl, Nat.le_of_ble_eq_true rfl⟩ hK hP hD rfl rfl [0] rfl (by decide) rfl hl.1 rfl (Nat.le_of_ble_eq_true rfl) dX5_rewind_6) hP hD hS hA [0] [] rfl rfl (by decide) (by decide) (fun w_2 H locs hw_3 hP hD hS => ?_)
  subst hw_3
  have hP : va_P D vwCl [(tp, .inr (5, [.ref by_, .int 0, .int 0, .int 0, .int 0, .int 0]))] H := hP
  have hD : va_D A [(tp, .inr (5, [.ref by_, .int 0, .int 0, .int 0, .int 0, .int 0]))] := hD
  exact b_vret S.1 S.2.1 X.2.1 X.2.2.1 hP hD hS rfl dX5_rewind_9
set_option maxHeartbeats 4000000 in
set_option maxRecDepth 100000 in
theorem c_X5_isWord (l : Launch) (D : va_G) (cI cZ cC cS : ClassId) (sq sz : Nat) (tp : Nat) (by_ : Nat) (wo : Nat) : mI l yX5_isWord wsX5_isWord 0 0 D (tyW cI cZ cC cS) sq [(tp, .inr (5, [.ref by_, .int 0, .int 0, .int 0, .int 0, .int 0]))] sz [.ref tp, .ref wo] (fun r w => r = 0 ∧ w = [(tp, .inr (5, [.ref by_, .int 0, .int 0, .int 0, .int 0, .int 0]))]) := by
  refine b_metI (cc := cX5_isWord) (maxL := 3) (ret := (some .boolean)) (by decide) rfl (Nat.le_of_ble_eq_true rfl) ?_
  intro p e s m below meth c ls A H X hsz hP hK hD hA hS hl
  have S : CallFix p m c cX5_isWord 3 s ([.ref tp, .ref wo] : List Value).toArray wsX5_isWord RX5 := X.1
  have hl : lv_has ls 3 [(0, .ref tp), (1, .ref wo)] := hl
  have iX5 := jX5_isWord_X5
  refine lv_aload_n S.1 S.2.1 dX5_isWord_0 rfl (lv_at hl 0 rfl) ?_
  refine b_get (v := .int 0) S iX5 hK hP 0 rfl rfl 2 (by decide) (by decide +kernel) rfl dX5_isWord_1 ?_
  refine lv_iconst (v := 1) S.1 S.2.1 dX5_isWord_4 (by decide) ?_
  refine lv_icmp_ne (tgt := 19) S.1 S.2.1 dX5_isWord_5 (by decide) (fun c_1 => ?_) (fun c_1 => absurd c_1 (by decide))
  refine lv_iconst (v := 0) S.1 S.2.1 dX5_isWord_19 (by decide) ?_
  exact b_zret S.1 S.2.1 X.2.1 X.2.2.1 rfl hP hD hS ⟨rfl, rfl⟩ dX5_isWord_20
set_option maxHeartbeats 4000000 in
set_option maxRecDepth 100000 in
theorem c_X1_clear (l : Launch) (D : va_G) (cI cZ cC cS : ClassId) (sq sz : Nat) (ct : Nat) (aCells : Nat) (aPrices : Nat) (aFree : Nat) (aPlaces : Nat) (aHomes : Nat) (aManners : Nat) (aGone : Nat) (aPaid : Nat) (aBlinks : Nat) (fa : Nat → Int32) (fb : Nat → Int32) (fc : Nat → Int32) (fd : Nat → Int32) (fe : Nat → Int32) : mV l yX1_clear wsX1_clear 1 23 0 0 D (tyW cI cZ cC cS) sq [(ct, .inr (1, [.int 0, .int 0, .int 0, .ref aCells, .ref aPrices, .ref aFree, .ref aPlaces, .ref aHomes, .ref aManners, .ref aGone, .ref aPaid, .ref aBlinks])), (aPrices, .inl (cI, 6, .inl fa)), (aFree, .inl (cI, 6, .inl fb)), (aGone, .inl (cI, 6, .inl fc)), (aPaid, .inl (cI, 36, .inl fd)), (aBlinks, .inl (cI, 36, .inl fe))] sz [.ref ct] (fun w => w = [(ct, .inr (1, [.int 0, .int 0, .int 0, .ref aCells, .ref aPrices, .ref aFree, .ref aPlaces, .ref aHomes, .ref aManners, .ref aGone, .ref aPaid, .ref aBlinks]))]) := by
  refine b_metV (cc := cX1_clear) (maxL := 1) (ret := none) (by decide) rfl (Nat.le_of_ble_eq_true rfl) ?_
  intro p e s m below meth c ls A H X hsz hP hK hD hA hS hl
  have S : CallFix p m c cX1_clear 1 s ([.ref ct] : List Value).toArray wsX1_clear RX1 := X.1
  have hl : lv_has ls 1 [(0, .ref ct)] := hl
  have iX1 := jX1_clear_X1
  refine lv_aload_n S.1 S.2.1 dX1_clear_0 rfl (lv_at hl 0 rfl) ?_
  refine lv_iconst (v := 0) S.1 S.2.1 dX1_clear_1 (by decide) ?_
  refine b_put (v := .int 0) S iX1 tyX1 tyX1_ok nmX1 hK hP hD hS 0 rfl rfl 0 (by decide) (by decide +kernel) rfl rfl rfl (Nat.le_of_ble_eq_true rfl) dX1_clear_2 (fun H locs hP hD hS => ?_)
  have hP : va_P D vwCl [(ct, .inr (1, [.int 0, .int 0, .int 0, .ref aCells, .ref aPrices, .ref aFree, .ref aPlaces, .ref aHomes, .ref aManners, .ref aGone, .ref aPaid, .ref aBlinks])), (aPrices, .inl (cI, 6, .inl fa)), (aFree, .inl (cI, 6, .inl fb)), (aGone, .inl (cI, 6, .inl fc)), (aPaid, .inl (cI, 36, .inl fd)), (aBlinks, .inl (cI, 36, .inl fe))] H := hP
  have hD : va_D A [(ct, .inr (1, [.int 0, .int 0, .int 0, .ref aCells, .ref aPrices, .ref aFree, .ref aPlaces, .ref aHomes, .ref aManners, .ref aGone, .ref aPaid, .ref aBlinks])), (aPrices, .inl (cI, 6, .inl fa)), (aFree, .inl (cI, 6, .inl fb)), (aGone, .inl (cI, 6, .inl fc)), (aPaid, .inl (cI, 36, .inl fd)), (aBlinks, .inl (cI, 36, .inl fe))] := hD
  refine lv_aload_n S.1 S.2.1 dX1_clear_5 rfl (lv_at hl 0 rfl) ?_
  refine lv_iconst (v := 0) S.1 S.2.1 dX1_clear_6 (by decide) ?_
  refine b_put (v := .int 0) S iX1 tyX1 tyX1_ok nmX1 hK hP hD hS 0 rfl rfl 1 (by decide) (by decide +kernel) rfl rfl rfl (Nat.le_of_ble_eq_true rfl) dX1_clear_7 (fun H locs hP hD hS => ?_)
  have hP : va_P D vwCl [(ct, .inr (1, [.int 0, .int 0, .int 0, .ref aCells, .ref aPrices, .ref aFree, .ref aPlaces, .ref aHomes, .ref aManners, .ref aGone, .ref aPaid, .ref aBlinks])), (aPrices, .inl (cI, 6, .inl fa)), (aFree, .inl (cI, 6, .inl fb)), (aGone, .inl (cI, 6, .inl fc)), (aPaid, .inl (cI, 36, .inl fd)), (aBlinks, .inl (cI, 36, .inl fe))] H := hP
  have hD : va_D A [(ct, .inr (1, [.int 0, .int 0, .int 0, .ref aCells, .ref aPrices, .ref aFree, .ref aPlaces, .ref aHomes, .ref aManners, .ref aGone, .ref aPaid, .ref aBlinks])), (aPrices, .inl (cI, 6, .inl fa)), (aFree, .inl (cI, 6, .inl fb)), (aGone, .inl (cI, 6, .inl fc)), (aPaid, .inl (cI, 36, .inl fd)), (aBlinks, .inl (cI, 36, .inl fe))] := hD
  refine lv_aload_n S.1 S.2.1 dX1_clear_10 rfl (lv_at hl 0 rfl) ?_
  refine lv_iconst (v := 0) S.1 S.2.1 dX1_clear_11 (by decide) ?_
  refine b_put (v := .int 0) S iX1 tyX1 tyX1_ok nmX1 hK hP hD hS 0 rfl rfl 2 (by decide) (by decide +kernel) rfl rfl rfl (Nat.le_of_ble_eq_true rfl) dX1_clear_12 (fun H locs hP hD hS => ?_)
  have hP : va_P D vwCl [(ct, .inr (1, [.int 0, .int 0, .int 0, .ref aCells, .ref aPrices, .ref aFree, .ref aPlaces, .ref aHomes, .ref aManners, .ref aGone, .ref aPaid, .ref aBlinks])), (aPrices, .inl (cI, 6, .inl fa)), (aFree, .inl (cI, 6, .inl fb)), (aGone, .inl (cI, 6, .inl fc)), (aPaid, .inl (cI, 36, .inl fd)), (aBlinks, .inl (cI, 36, .inl fe))] H := hP
  have hD : va_D A [(ct, .inr (1, [.int 0, .int 0, .int 0, .ref aCells, .ref aPrices, .ref aFree, .ref aPlaces, .ref aHomes, .ref aManners, .ref aGone, .ref aPaid, .ref aBlinks])), (aPrices, .inl (cI, 6, .inl fa)), (aFree, .inl (cI, 6, .inl fb)), (aGone, .inl (cI, 6, .inl fc)), (aPaid, .inl (cI, 36, .inl fd)), (aBlinks, .inl (cI, 36, .inl fe))] := hD
  refine lv_aload_n S.1 S.2.1 dX1_clear_15 rfl (lv_at hl 0 rfl) ?_
  refine b_get (v := .ref aPrices) S iX1 hK hP 0 rfl rfl 4 (by decide) (by decide +kernel) rfl dX1_clear_16 ?_
  refine lv_iconst (v := 0) S.1 S.2.1 dX1_clear_19 (by decide) ?_
  refine b_av (wr := [(ct, .inr (1, [.int 0, .int 0, .int 0, .ref aCells, .ref aPrices, .ref aFree, .ref aPlaces, .ref aHomes, .ref aManners, .ref aGone, .ref aPaid, .ref aBlinks])), (aFree, .inl (cI, 6, .inl fb)), (aGone, .inl (cI, 6, .inl fc)), (aPaid, .inl (cI, 36, .inl fd)), (aBlinks, .inl (cI, 36, .inl fe))]) (b_runS (As := [.ref aPrices, .int 0]) (c_fill_6 l D cI cZ cC cS sq H.size aPrices fa) S gX1_clear_J7_fill_53178 rfl hdS_J7_fill_53178 ⟨Nat.le_of_ble_eq_true rfl, Nat.le_of_ble_eq_true rfl⟩ ⟨Nat.le_of_ble_eq_true rfl, Nat.le_of_ble_eq_true rfl⟩ hK hP hD [1] rfl (by decide) rfl hl.1 rfl (Nat.le_of_ble_eq_true rfl) dX1_clear_20) hP hD hS hA [1] [0, 2, 3, 4, 5] rfl rfl (by decide) (by decide) (fun w_2 H locs hw_3 hP hD hS => ?_)
  obtain ⟨f2_4, rfl⟩ := hw_3
  have hP : va_P D vwCl [(ct, .inr (1, [.int 0, .int 0, .int 0, .ref aCells, .ref aPrices, .ref aFree, .ref aPlaces, .ref aHomes, .ref aManners, .ref aGone, .ref aPaid, .ref aBlinks])), (aFree, .inl (cI, 6, .inl fb)), (aGone, .inl (cI, 6, .inl fc)), (aPaid, .inl (cI, 36, .inl fd)), (aBlinks, .inl (cI, 36, .inl fe)), (aPrices, .inl (cI, 6, .inl f2_4))] H := hP
  have hD : va_D A [(ct, .inr (1, [.int 0, .int 0, .int 0, .ref aCells, .ref aPrices, .ref aFree, .ref aPlaces, .ref aHomes, .ref aManners, .ref aGone, .ref aPaid, .ref aBlinks])), (aFree, .inl (cI, 6, .inl fb)), (aGone, .inl (cI, 6, .inl fc)), (aPaid, .inl (cI, 36, .inl fd)), (aBlinks, .inl (cI, 36, .inl fe)), (aPrices, .inl (cI, 6, .inl f2_4))] := hD
  refine lv_aload_n S.1 S.2.1 dX1_clear_23 rfl (lv_at hl 0 rfl) ?_
  refine b_get (v := .ref aFree) S iX1 hK hP 0 rfl rfl 5 (by decide) (by decide +kernel) rfl dX1_clear_24 ?_
  refine lv_iconst (v := 0) S.1 S.2.1 dX1_clear_27 (by decide) ?_
  refine b_av (wr := [(ct, .inr (1, [.int 0, .int 0, .int 0, .ref aCells, .ref aPrices, .ref aFree, .ref aPlaces, .ref aHomes, .ref aManners, .ref aGone, .ref aPaid, .ref aBlinks])), (aGone, .inl (cI, 6, .inl fc)), (aPaid, .inl (cI, 36, .inl fd)), (aBlinks, .inl (cI, 36, .inl fe)), (aPrices, .inl (cI, 6, .inl f2_4))]) (b_runS (As := [.ref aFree, .int 0]) (c_fill_6 l D cI cZ cC cS sq H.size aFree fb) S gX1_clear_J7_fill_53178 rfl hdS_J7_fill_53178 ⟨Nat.le_of_ble_eq_true rfl, Nat.le_of_ble_eq_true rfl⟩ ⟨Nat.le_of_ble_eq_true rfl, Nat.le_of_ble_eq_true rfl⟩ hK hP hD [1] rfl (by decide) rfl hl.1 rfl (Nat.le_of_ble_eq_true rfl) dX1_clear_28) hP hD hS hA [1] [0, 2, 3, 4, 5] rfl rfl (by decide) (by decide) (fun w_6 H locs hw_7 hP hD hS => ?_)
  obtain ⟨f2_8, rfl⟩ := hw_7
  have hP : va_P D vwCl [(ct, .inr (1, [.int 0, .int 0, .int 0, .ref aCells, .ref aPrices, .ref aFree, .ref aPlaces, .ref aHomes, .ref aManners, .ref aGone, .ref aPaid, .ref aBlinks])), (aGone, .inl (cI, 6, .inl fc)), (aPaid, .inl (cI, 36, .inl fd)), (aBlinks, .inl (cI, 36, .inl fe)), (aPrices, .inl (cI, 6, .inl f2_4)), (aFree, .inl (cI, 6, .inl f2_8))] H := hP
  have hD : va_D A [(ct, .inr (1, [.int 0, .int 0, .int 0, .ref aCells, .ref aPrices, .ref aFree, .ref aPlaces, .ref aHomes, .ref aManners, .ref aGone, .ref aPaid, .ref aBlinks])), (aGone, .inl (cI, 6, .inl fc)), (aPaid, .inl (cI, 36, .inl fd)), (aBlinks, .inl (cI, 36, .inl fe)), (aPrices, .inl (cI, 6, .inl f2_4)), (aFree, .inl (cI, 6, .inl f2_8))] := hD
  refine lv_aload_n S.1 S.2.1 dX1_clear_31 rfl (lv_at hl 0 rfl) ?_
  refine b_get (v := .ref aGone) S iX1 hK hP 0 rfl rfl 9 (by decide) (by decide +kernel) rfl dX1_clear_32 ?_
  refine lv_iconst (v := 0) S.1 S.2.1 dX1_clear_35 (by decide) ?_
  refine b_av (wr := [(ct, .inr (1, [.int 0, .int 0, .int 0, .ref aCells, .ref aPrices, .ref aFree, .ref aPlaces, .ref aHomes, .ref aManners, .ref aGone, .ref aPaid, .ref aBlinks])), (aPaid, .inl (cI, 36, .inl fd)), (aBlinks, .inl (cI, 36, .inl fe)), (aPrices, .inl (cI, 6, .inl f2_4)), (aFree, .inl (cI, 6, .inl f2_8))]) (b_runS (As := [.ref aGone, .int 0]) (c_fill_6 l D cI cZ cC cS sq H.size aGone fc) S gX1_clear_J7_fill_53178 rfl hdS_J7_fill_53178 ⟨Nat.le_of_ble_eq_true rfl, Nat.le_of_ble_eq_true rfl⟩ ⟨Nat.le_of_ble_eq_true rfl, Nat.le_of_ble_eq_true rfl⟩ hK hP hD [1] rfl (by decide) rfl hl.1 rfl (Nat.le_of_ble_eq_true rfl) dX1_clear_36) hP hD hS hA [1] [0, 2, 3, 4, 5] rfl rfl (by decide) (by decide) (fun w_10 H locs hw_11 hP hD hS => ?_)
  obtain ⟨f2_12, rfl⟩ := hw_11
  have hP : va_P D vwCl [(ct, .inr (1, [.int 0, .int 0, .int 0, .ref aCells, .ref aPrices, .ref aFree, .ref aPlaces, .ref aHomes, .ref aManners, .ref aGone, .ref aPaid, .ref aBlinks])), (aPaid, .inl (cI, 36, .inl fd)), (aBlinks, .inl (cI, 36, .inl fe)), (aPrices, .inl (cI, 6, .inl f2_4)), (aFree, .inl (cI, 6, .inl f2_8)), (aGone, .inl (cI, 6, .inl f2_12))] H := hP
  have hD : va_D A [(ct, .inr (1, [.int 0, .int 0, .int 0, .ref aCells, .ref aPrices, .ref aFree, .ref aPlaces, .ref aHomes, .ref aManners, .ref aGone, .ref aPaid, .ref aBlinks])), (aPaid, .inl (cI, 36, .inl fd)), (aBlinks, .inl (cI, 36, .inl fe)), (aPrices, .inl (cI, 6, .inl f2_4)), (aFree, .inl (cI, 6, .inl f2_8)), (aGone, .inl (cI, 6, .inl f2_12))] := hD
  refine lv_aload_n S.1 S.2.1 dX1_clear_39 rfl (lv_at hl 0 rfl) ?_
  refine b_get (v := .ref aPaid) S iX1 hK hP 0 rfl rfl 10 (by decide) (by decide +kernel) rfl dX1_clear_40 ?_
  refine lv_iconst (v := 0) S.1 S.2.1 dX1_clear_43 (by decide) ?_
  refine b_av (wr := [(ct, .inr (1, [.int 0, .int 0, .int 0, .ref aCells, .ref aPrices, .ref aFree, .ref aPlaces, .ref aHomes, .ref aManners, .ref aGone, .ref aPaid, .ref aBlinks])), (aBlinks, .inl (cI, 36, .inl fe)), (aPrices, .inl (cI, 6, .inl f2_4)), (aFree, .inl (cI, 6, .inl f2_8)), (aGone, .inl (cI, 6, .inl f2_12))]) (b_runS (As := [.ref aPaid, .int 0]) (c_fill_36 l D cI cZ cC cS sq H.size aPaid fd) S gX1_clear_J7_fill_53178 rfl hdS_J7_fill_53178 ⟨Nat.le_of_ble_eq_true rfl, Nat.le_of_ble_eq_true rfl⟩ ⟨Nat.le_of_ble_eq_true rfl, Nat.le_of_ble_eq_true rfl⟩ hK hP hD [1] rfl (by decide) rfl hl.1 rfl (Nat.le_of_ble_eq_true rfl) dX1_clear_44) hP hD hS hA [1] [0, 2, 3, 4, 5] rfl rfl (by decide) (by decide) (fun w_14 H locs hw_15 hP hD hS => ?_)
  obtain ⟨f2_16, rfl⟩ := hw_15
  have hP : va_P D vwCl [(ct, .inr (1, [.int 0, .int 0, .int 0, .ref aCells, .ref aPrices, .ref aFree, .ref aPlaces, .ref aHomes, .ref aManners, .ref aGone, .ref aPaid, .ref aBlinks])), (aBlinks, .inl (cI, 36, .inl fe)), (aPrices, .inl (cI, 6, .inl f2_4)), (aFree, .inl (cI, 6, .inl f2_8)), (aGone, .inl (cI, 6, .inl f2_12)), (aPaid, .inl (cI, 36, .inl f2_16))] H := hP
  have hD : va_D A [(ct, .inr (1, [.int 0, .int 0, .int 0, .ref aCells, .ref aPrices, .ref aFree, .ref aPlaces, .ref aHomes, .ref aManners, .ref aGone, .ref aPaid, .ref aBlinks])), (aBlinks, .inl (cI, 36, .inl fe)), (aPrices, .inl (cI, 6, .inl f2_4)), (aFree, .inl (cI, 6, .inl f2_8)), (aGone, .inl (cI, 6, .inl f2_12)), (aPaid, .inl (cI, 36, .inl f2_16))] := hD
  refine lv_aload_n S.1 S.2.1 dX1_clear_47 rfl (lv_at hl 0 rfl) ?_
  refine b_get (v := .ref aBlinks) S iX1 hK hP 0 rfl rfl 11 (by decide) (by decide +kernel) rfl dX1_clear_48 ?_
  refine lv_iconst (v := 0) S.1 S.2.1 dX1_clear_51 (by decide) ?_
  refine b_av (wr := [(ct, .inr (1, [.int 0, .int 0, .int 0, .ref aCells, .ref aPrices, .ref aFree, .ref aPlaces, .ref aHomes, .ref aManners, .ref aGone, .ref aPaid, .ref aBlinks])), (aPrices, .inl (cI, 6, .inl f2_4)), (aFree, .inl (cI, 6, .inl f2_8)), (aGone, .inl (cI, 6, .inl f2_12)), (aPaid, .inl (cI, 36, .inl f2_16))]) (b_runS (As := [.ref aBlinks, .int 0]) (c_fill_36 l D cI cZ cC cS sq H.size aBlinks fe) S gX1_clear_J7_fill_53178 rfl hdS_J7_fill_53178 ⟨Nat.le_of_ble_eq_true rfl, Nat.le_of_ble_eq_true rfl⟩ ⟨Nat.le_of_ble_eq_true rfl, Nat.le_of_ble_eq_true rfl⟩ hK hP hD [1] rfl (by decide) rfl hl.1 rfl (Nat.le_of_ble_eq_true rfl) dX1_clear_52) hP hD hS hA [1] [0, 2, 3, 4, 5] rfl rfl (by decide) (by decide) (fun w_18 H locs hw_19 hP hD hS => ?_)
  obtain ⟨f2_20, rfl⟩ := hw_19
  have hP : va_P D vwCl [(ct, .inr (1, [.int 0, .int 0, .int 0, .ref aCells, .ref aPrices, .ref aFree, .ref aPlaces, .ref aHomes, .ref aManners, .ref aGone, .ref aPaid, .ref aBlinks])), (aPrices, .inl (cI, 6, .inl f2_4)), (aFree, .inl (cI, 6, .inl f2_8)), (aGone, .inl (cI, 6, .inl f2_12)), (aPaid, .inl (cI, 36, .inl f2_16)), (aBlinks, .inl (cI, 36, .inl f2_20))] H := hP
  have hD : va_D A [(ct, .inr (1, [.int 0, .int 0, .int 0, .ref aCells, .ref aPrices, .ref aFree, .ref aPlaces, .ref aHomes, .ref aManners, .ref aGone, .ref aPaid, .ref aBlinks])), (aPrices, .inl (cI, 6, .inl f2_4)), (aFree, .inl (cI, 6, .inl f2_8)), (aGone, .inl (cI, 6, .inl f2_12)), (aPaid, .inl (cI, 36, .inl f2_16)), (aBlinks, .inl (cI, 36, .inl f2_20))] := hD
  have hP := hP.sub (ws' := [(ct, .inr (1, [.int 0, .int 0, .int 0, .ref aCells, .ref aPrices, .ref aFree, .ref aPlaces, .ref aHomes, .ref aManners, .ref aGone, .ref aPaid, .ref aBlinks]))]) [0] rfl
  have hD := hD.sub (ws' := [(ct, .inr (1, [.int 0, .int 0, .int 0, .ref aCells, .ref aPrices, .ref aFree, .ref aPlaces, .ref aHomes, .ref aManners, .ref aGone, .ref aPaid, .ref aBlinks]))]) [0] (by decide) rfl
  exact b_vret S.1 S.2.1 X.2.1 X.2.2.1 hP hD hS rfl dX1_clear_55
set_option maxHeartbeats 4000000 in
set_option maxRecDepth 100000 in
theorem c_X1_isNone (l : Launch) (D : va_G) (cI cZ cC cS : ClassId) (sq sz : Nat) (ct : Nat) (aCells : Nat) (aPrices : Nat) (aFree : Nat) (aPlaces : Nat) (aHomes : Nat) (aManners : Nat) (aGone : Nat) (aPaid : Nat) (aBlinks : Nat) : mI l yX1_isNone wsX1_isNone 0 0 D (tyW cI cZ cC cS) sq [(ct, .inr (1, [.int 0, .int 0, .int 0, .ref aCells, .ref aPrices, .ref aFree, .ref aPlaces, .ref aHomes, .ref aManners, .ref aGone, .ref aPaid, .ref aBlinks]))] sz [.ref ct] (fun r w => r = 1 ∧ w = [(ct, .inr (1, [.int 0, .int 0, .int 0, .ref aCells, .ref aPrices, .ref aFree, .ref aPlaces, .ref aHomes, .ref aManners, .ref aGone, .ref aPaid, .ref aBlinks]))]) := by
  refine b_metI (cc := cX1_isNone) (maxL := 1) (ret := (some .boolean)) (by decide) rfl (Nat.le_of_ble_eq_true rfl) ?_
  intro p e s m below meth c ls A H X hsz hP hK hD hA hS hl
  have S : CallFix p m c cX1_isNone 1 s ([.ref ct] : List Value).toArray wsX1_isNone RX1 := X.1
  have hl : lv_has ls 1 [(0, .ref ct)] := hl
  have iX1 := jX1_isNone_X1
  refine lv_aload_n S.1 S.2.1 dX1_isNone_0 rfl (lv_at hl 0 rfl) ?_
  refine b_get (v := .int 0) S iX1 hK hP 0 rfl rfl 0 (by decide) (by decide +kernel) rfl dX1_isNone_1 ?_
  refine lv_if_ne (tgt := 11) S.1 S.2.1 dX1_isNone_4 (by decide) (fun c_1 => absurd c_1 (by decide)) (fun c_1 => ?_)
  refine lv_iconst (v := 1) S.1 S.2.1 dX1_isNone_7 (by decide) ?_
  refine lv_goto (tgt := 12) S.1 S.2.1 dX1_isNone_8 (by decide) ?_
  exact b_zret S.1 S.2.1 X.2.1 X.2.2.1 rfl hP hD hS ⟨rfl, rfl⟩ dX1_isNone_12
set_option maxHeartbeats 4000000 in
set_option maxRecDepth 100000 in
theorem c_X1_isCell_n (l : Launch) (D : va_G) (cI cZ cC cS : ClassId) (sq sz : Nat) (ct : Nat) (aCells : Nat) (aPrices : Nat) (aFree : Nat) (aPlaces : Nat) (aHomes : Nat) (aManners : Nat) (aGone : Nat) (aPaid : Nat) (aBlinks : Nat) (k : Int32) (h1 : k < 0) : mI l yX1_isCell wsX1_isCell 0 0 D (tyW cI cZ cC cS) sq [(ct, .inr (1, [.int 0, .int 0, .int 0, .ref aCells, .ref aPrices, .ref aFree, .ref aPlaces, .ref aHomes, .ref aManners, .ref aGone, .ref aPaid, .ref aBlinks]))] sz [.ref ct, .int k] (fun r w => r = 0 ∧ w = [(ct, .inr (1, [.int 0, .int 0, .int 0, .ref aCells, .ref aPrices, .ref aFree, .ref aPlaces, .ref aHomes, .ref aManners, .ref aGone, .ref aPaid, .ref aBlinks]))]) := by
  refine b_metI (cc := cX1_isCell) (maxL := 2) (ret := (some .boolean)) (by decide) rfl (Nat.le_of_ble_eq_true rfl) ?_
  intro p e s m below meth c ls A H X hsz hP hK hD hA hS hl
  have S : CallFix p m c cX1_isCell 2 s ([.ref ct, .int k] : List Value).toArray wsX1_isCell RX1 := X.1
  have hl : lv_has ls 2 [(0, .ref ct), (1, .int k)] := hl
  refine lv_iload_n S.1 S.2.1 dX1_isCell_0 rfl (lv_at hl 1 rfl) ?_
  refine lv_if_lt (tgt := 30) S.1 S.2.1 dX1_isCell_1 (by decide) (fun c_1 => ?_) (fun c_1 => absurd h1 c_1)
  refine lv_iconst (v := 0) S.1 S.2.1 dX1_isCell_30 (by decide) ?_
  exact b_zret S.1 S.2.1 X.2.1 X.2.2.1 rfl hP hD hS ⟨rfl, rfl⟩ dX1_isCell_31
set_option maxHeartbeats 4000000 in
set_option maxRecDepth 100000 in
theorem c_X1_isCell_p (l : Launch) (D : va_G) (cI cZ cC cS : ClassId) (sq sz : Nat) (ct : Nat) (aCells : Nat) (aPrices : Nat) (aFree : Nat) (aPlaces : Nat) (aHomes : Nat) (aManners : Nat) (aGone : Nat) (aPaid : Nat) (aBlinks : Nat) (k : Int32) (h1 : ¬ k < 0) : mI l yX1_isCell wsX1_isCell 0 0 D (tyW cI cZ cC cS) sq [(ct, .inr (1, [.int 0, .int 0, .int 0, .ref aCells, .ref aPrices, .ref aFree, .ref aPlaces, .ref aHomes, .ref aManners, .ref aGone, .ref aPaid, .ref aBlinks]))] sz [.ref ct, .int k] (fun r w => r = 0 ∧ w = [(ct, .inr (1, [.int 0, .int 0, .int 0, .ref aCells, .ref aPrices, .ref aFree, .ref aPlaces, .ref aHomes, .ref aManners, .ref aGone, .ref aPaid, .ref aBlinks]))]) := by
  refine b_metI (cc := cX1_isCell) (maxL := 2) (ret := (some .boolean)) (by decide) rfl (Nat.le_of_ble_eq_true rfl) ?_
  intro p e s m below meth c ls A H X hsz hP hK hD hA hS hl
  have S : CallFix p m c cX1_isCell 2 s ([.ref ct, .int k] : List Value).toArray wsX1_isCell RX1 := X.1
  have hl : lv_has ls 2 [(0, .ref ct), (1, .int k)] := hl
  have iX1 := jX1_isCell_X1
  refine lv_iload_n S.1 S.2.1 dX1_isCell_0 rfl (lv_at hl 1 rfl) ?_
  refine lv_if_lt (tgt := 30) S.1 S.2.1 dX1_isCell_1 (by decide) (fun c_1 => absurd c_1 h1) (fun c_1 => ?_)
  refine lv_iload_n S.1 S.2.1 dX1_isCell_4 rfl (lv_at hl 1 rfl) ?_
  refine lv_bipush (v := 10) S.1 S.2.1 dX1_isCell_5 (by decide) ?_
  refine lv_irem S.1 S.2.1 dX1_isCell_7 (by decide) ?_
  refine lv_topi (fun x_2 ex_2 => ?_)
  refine lv_aload_n S.1 S.2.1 dX1_isCell_8 rfl (lv_at hl 0 rfl) ?_
  refine b_get (v := .int 0) S iX1 hK hP 0 rfl rfl 0 (by decide) (by decide +kernel) rfl dX1_isCell_9 ?_
  refine lv_icmp_ge (tgt := 30) S.1 S.2.1 dX1_isCell_12 (by decide) (fun c_3 => ?_) (fun c_3 => absurd (by rw [ex_2]; exact rem10 h1) c_3)
  refine lv_iconst (v := 0) S.1 S.2.1 dX1_isCell_30 (by decide) ?_
  exact b_zret S.1 S.2.1 X.2.1 X.2.2.1 rfl hP hD hS ⟨rfl, rfl⟩ dX1_isCell_31
theorem c_X1_isCell (l : Launch) (D : va_G) (cI cZ cC cS : ClassId) (sq sz : Nat) (ct : Nat) (aCells : Nat) (aPrices : Nat) (aFree : Nat) (aPlaces : Nat) (aHomes : Nat) (aManners : Nat) (aGone : Nat) (aPaid : Nat) (aBlinks : Nat) (k : Int32) : mI l yX1_isCell wsX1_isCell 0 0 D (tyW cI cZ cC cS) sq [(ct, .inr (1, [.int 0, .int 0, .int 0, .ref aCells, .ref aPrices, .ref aFree, .ref aPlaces, .ref aHomes, .ref aManners, .ref aGone, .ref aPaid, .ref aBlinks]))] sz [.ref ct, .int k] (fun r w => r = 0 ∧ w = [(ct, .inr (1, [.int 0, .int 0, .int 0, .ref aCells, .ref aPrices, .ref aFree, .ref aPlaces, .ref aHomes, .ref aManners, .ref aGone, .ref aPaid, .ref aBlinks]))]) := by
  by_cases h : k < 0
  · exact c_X1_isCell_n l D cI cZ cC cS sq sz ct aCells aPrices aFree aPlaces aHomes aManners aGone aPaid aBlinks k h
  · exact c_X1_isCell_p l D cI cZ cC cS sq sz ct aCells aPrices aFree aPlaces aHomes aManners aGone aPaid aBlinks k h
set_option maxHeartbeats 4000000 in
set_option maxRecDepth 100000 in
theorem c_X1_isOpen (l : Launch) (D : va_G) (cI cZ cC cS : ClassId) (sq sz : Nat) (ct : Nat) (aCells : Nat) (aPrices : Nat) (aFree : Nat) (aPlaces : Nat) (aHomes : Nat) (aManners : Nat) (aGone : Nat) (aPaid : Nat) (aBlinks : Nat) (k : Int32) : mI l yX1_isOpen wsX1_isOpen 1 21 D (tyW cI cZ cC cS) sq [(ct, .inr (1, [.int 0, .int 0, .int 0, .ref aCells, .ref aPrices, .ref aFree, .ref aPlaces, .ref aHomes, .ref aManners, .ref aGone, .ref aPaid, .ref aBlinks]))] sz [.ref ct, .int k] (fun r w => r = 0 ∧ w = [(ct, .inr (1, [.int 0, .int 0, .int 0, .ref aCells, .ref aPrices, .ref aFree, .ref aPlaces, .ref aHomes, .ref aManners, .ref aGone, .ref aPaid, .ref aBlinks]))]) := by
  refine b_metI (cc := cX1_isOpen) (maxL := 2) (ret := (some .boolean)) (by decide) rfl (Nat.le_of_ble_eq_true rfl) ?_
  intro p e s m below meth c ls A H X hsz hP hK hD hA hS hl
  have S : CallFix p m c cX1_isOpen 2 s ([.ref ct, .int k] : List Value).toArray wsX1_isOpen RX1 := X.1
  have hl : lv_has ls 2 [(0, .ref ct), (1, .int k)] := hl
  refine lv_aload_n S.1 S.2.1 dX1_isOpen_0 rfl (lv_at hl 0 rfl) ?_
  refine lv_iload_n S.1 S.2.1 dX1_isOpen_1 rfl (lv_at hl 1 rfl) ?_
  refine b_ai (wr := []) (b_runV (q0 := 0) (ci := 1) (As := [.int k]) (c_X1_isCell l D cI cZ cC cS sq H.size ct aCells aPrices aFree aPlaces aHomes aManners aGone aPaid aBlinks k) S gX1_isOpen_X1_isCell rfl hdV_X1_isCell ⟨Nat.le_of_ble_eq_true rfl, Nat.le_of_ble_eq_true rfl⟩ ⟨Nat.le_of_ble_eq_true rfl, Nat.le_of_ble_eq_true rfl⟩ hK hP hD rfl rfl [0] rfl (by decide) rfl hl.1 rfl (Nat.le_of_ble_eq_true rfl) dX1_isOpen_2) hP hD hS hA [0] [] rfl rfl (by decide) (by decide) (fun r_1 w_2 H locs hw_3 hP hD hS => ?_)
  obtain ⟨rfl, rfl⟩ := hw_3
  have hP : va_P D vwCl [(ct, .inr (1, [.int 0, .int 0, .int 0, .ref aCells, .ref aPrices, .ref aFree, .ref aPlaces, .ref aHomes, .ref aManners, .ref aGone, .ref aPaid, .ref aBlinks]))] H := hP
  have hD : va_D A [(ct, .inr (1, [.int 0, .int 0, .int 0, .ref aCells, .ref aPrices, .ref aFree, .ref aPlaces, .ref aHomes, .ref aManners, .ref aGone, .ref aPaid, .ref aBlinks]))] := hD
  refine lv_if_eq (tgt := 21) S.1 S.2.1 dX1_isOpen_5 (by decide) (fun c_4 => ?_) (fun c_4 => absurd c_4 (by decide))
  refine lv_iconst (v := 0) S.1 S.2.1 dX1_isOpen_21 (by decide) ?_
  exact b_zret S.1 S.2.1 X.2.1 X.2.2.1 rfl hP hD hS ⟨rfl, rfl⟩ dX1_isOpen_22
set_option maxHeartbeats 4000000 in
set_option maxRecDepth 100000 in
theorem c_X1_isMirror (l : Launch) (D : va_G) (cI cZ cC cS : ClassId) (sq sz : Nat) (ct : Nat) (aCells : Nat) (aPrices : Nat) (aFree : Nat) (aPlaces : Nat) (aHomes : Nat) (aManners : Nat) (aGone : Nat) (aPaid : Nat) (aBlinks : Nat) (k : Int32) : mI l yX1_isMirror wsX1_isMirror 1 21 D (tyW cI cZ cC cS) sq [(ct, .inr (1, [.int 0, .int 0, .int 0, .ref aCells, .ref aPrices, .ref aFree, .ref aPlaces, .ref aHomes, .ref aManners, .ref aGone, .ref aPaid, .ref aBlinks]))] sz [.ref ct, .int k] (fun r w => r = 0 ∧ w = [(ct, .inr (1, [.int 0, .int 0, .int 0, .ref aCells, .ref aPrices, .ref aFree, .ref aPlaces, .ref aHomes, .ref aManners, .ref aGone, .ref aPaid, .ref aBlinks]))]) := by
  refine b_metI (cc := cX1_isMirror) (maxL := 2) (ret := (some .boolean)) (by decide) rfl (Nat.le_of_ble_eq_true rfl) ?_
  intro p e s m below meth c ls A H X hsz hP hK hD hA hS hl
  have S : CallFix p m c cX1_isMirror 2 s ([.ref ct, .int k] : List Value).toArray wsX1_isMirror RX1 := X.1
  have hl : lv_has ls 2 [(0, .ref ct), (1, .int k)] := hl
  refine lv_aload_n S.1 S.2.1 dX1_isMirror_0 rfl (lv_at hl 0 rfl) ?_
  refine lv_iload_n S.1 S.2.1 dX1_isMirror_1 rfl (lv_at hl 1 rfl) ?_
  refine b_ai (wr := []) (b_runV (q0 := 0) (ci := 1) (As := [.int k]) (c_X1_isCell l D cI cZ cC cS sq H.size ct aCells aPrices aFree aPlaces aHomes aManners aGone aPaid aBlinks k) S gX1_isMirror_X1_isCell rfl hdV_X1_isCell ⟨Nat.le_of_ble_eq_true rfl, Nat.le_of_ble_eq_true rfl⟩ ⟨Nat.le_of_ble_eq_true rfl, Nat.le_of_ble_eq_true rfl⟩ hK hP hD rfl rfl [0] rfl (by decide) rfl hl.1 rfl (Nat.le_of_ble_eq_true rfl) dX1_isMirror_2) hP hD hS hA [0] [] rfl rfl (by decide) (by decide) (fun r_1 w_2 H locs hw_3 hP hD hS => ?_)
  obtain ⟨rfl, rfl⟩ := hw_3
  have hP : va_P D vwCl [(ct, .inr (1, [.int 0, .int 0, .int 0, .ref aCells, .ref aPrices, .ref aFree, .ref aPlaces, .ref aHomes, .ref aManners, .ref aGone, .ref aPaid, .ref aBlinks]))] H := hP
  have hD : va_D A [(ct, .inr (1, [.int 0, .int 0, .int 0, .ref aCells, .ref aPrices, .ref aFree, .ref aPlaces, .ref aHomes, .ref aManners, .ref aGone, .ref aPaid, .ref aBlinks]))] := hD
  refine lv_if_eq (tgt := 22) S.1 S.2.1 dX1_isMirror_5 (by decide) (fun c_4 => ?_) (fun c_4 => absurd c_4 (by decide))
  refine lv_iconst (v := 0) S.1 S.2.1 dX1_isMirror_22 (by decide) ?_
  exact b_zret S.1 S.2.1 X.2.1 X.2.2.1 rfl hP hD hS ⟨rfl, rfl⟩ dX1_isMirror_23
set_option maxHeartbeats 4000000 in
set_option maxRecDepth 100000 in
theorem c_X1_ownerOf (l : Launch) (D : va_G) (cI cZ cC cS : ClassId) (sq sz : Nat) (ct : Nat) (aCells : Nat) (aPrices : Nat) (aFree : Nat) (aPlaces : Nat) (aHomes : Nat) (aManners : Nat) (aGone : Nat) (aPaid : Nat) (aBlinks : Nat) (k : Int32) : mI l yX1_ownerOf wsX1_ownerOf 1 21 D (tyW cI cZ cC cS) sq [(ct, .inr (1, [.int 0, .int 0, .int 0, .ref aCells, .ref aPrices, .ref aFree, .ref aPlaces, .ref aHomes, .ref aManners, .ref aGone, .ref aPaid, .ref aBlinks]))] sz [.ref ct, .int k] (fun r w => r = 6 ∧ w = [(ct, .inr (1, [.int 0, .int 0, .int 0, .ref aCells, .ref aPrices, .ref aFree, .ref aPlaces, .ref aHomes, .ref aManners, .ref aGone, .ref aPaid, .ref aBlinks]))]) := by
  refine b_metI (cc := cX1_ownerOf) (maxL := 2) (ret := (some .int)) (by decide) rfl (Nat.le_of_ble_eq_true rfl) ?_
  intro p e s m below meth c ls A H X hsz hP hK hD hA hS hl
  have S : CallFix p m c cX1_ownerOf 2 s ([.ref ct, .int k] : List Value).toArray wsX1_ownerOf RX1 := X.1
  have hl : lv_has ls 2 [(0, .ref ct), (1, .int k)] := hl
  refine lv_aload_n S.1 S.2.1 dX1_ownerOf_0 rfl (lv_at hl 0 rfl) ?_
  refine lv_iload_n S.1 S.2.1 dX1_ownerOf_1 rfl (lv_at hl 1 rfl) ?_
  refine b_ai (wr := []) (b_runV (q0 := 0) (ci := 1) (As := [.int k]) (c_X1_isCell l D cI cZ cC cS sq H.size ct aCells aPrices aFree aPlaces aHomes aManners aGone aPaid aBlinks k) S gX1_ownerOf_X1_isCell rfl hdV_X1_isCell ⟨Nat.le_of_ble_eq_true rfl, Nat.le_of_ble_eq_true rfl⟩ ⟨Nat.le_of_ble_eq_true rfl, Nat.le_of_ble_eq_true rfl⟩ hK hP hD rfl rfl [0] rfl (by decide) rfl hl.1 rfl (Nat.le_of_ble_eq_true rfl) dX1_ownerOf_2) hP hD hS hA [0] [] rfl rfl (by decide) (by decide) (fun r_1 w_2 H locs hw_3 hP hD hS => ?_)
  obtain ⟨rfl, rfl⟩ := hw_3
  have hP : va_P D vwCl [(ct, .inr (1, [.int 0, .int 0, .int 0, .ref aCells, .ref aPrices, .ref aFree, .ref aPlaces, .ref aHomes, .ref aManners, .ref aGone, .ref aPaid, .ref aBlinks]))] H := hP
  have hD : va_D A [(ct, .inr (1, [.int 0, .int 0, .int 0, .ref aCells, .ref aPrices, .ref aFree, .ref aPlaces, .ref aHomes, .ref aManners, .ref aGone, .ref aPaid, .ref aBlinks]))] := hD
  refine lv_if_eq (tgt := 29) S.1 S.2.1 dX1_ownerOf_5 (by decide) (fun c_4 => ?_) (fun c_4 => absurd c_4 (by decide))
  refine lv_bipush (v := 6) S.1 S.2.1 dX1_ownerOf_29 (by decide) ?_
  exact b_iret S.1 S.2.1 X.2.1 X.2.2.1 hP hD hS ⟨rfl, rfl⟩ dX1_ownerOf_31
set_option maxHeartbeats 4000000 in
set_option maxRecDepth 100000 in
theorem c_X3_wrong_1 (l : Launch) (D : va_G) (cI cZ cC cS : ClassId) (sq sz : Nat) (rd : Nat) (tp : Nat) (ct : Nat) (by_ : Nat) : mI l yX3_wrong wsX3_wrong 0 0 D (tyW cI cZ cC cS) sq [(rd, .inr (3, [.ref tp, .ref ct, .int 0, .int 0])), (tp, .inr (5, [.ref by_, .int 0, .int 0, .int 0, .int 0, .int 0]))] sz [.ref rd, .int 1] (fun r w => r = 0 ∧ w = [(rd, .inr (3, [.ref tp, .ref ct, .int 1, .int 0])), (tp, .inr (5, [.ref by_, .int 0, .int 0, .int 0, .int 0, .int 0]))]) := by
  refine b_metI (cc := cX3_wrong) (maxL := 2) (ret := (some .boolean)) (by decide) rfl (Nat.le_of_ble_eq_true rfl) ?_
  intro p e s m below meth c ls A H X hsz hP hK hD hA hS hl
  have S : CallFix p m c cX3_wrong 2 s ([.ref rd, .int 1] : List Value).toArray wsX3_wrong RX3 := X.1
  have hl : lv_has ls 2 [(0, .ref rd), (1, .int 1)] := hl
  have iX3 := jX3_wrong_X3
  have iX5 := jX3_wrong_X5
  refine lv_aload_n S.1 S.2.1 dX3_wrong_0 rfl (lv_at hl 0 rfl) ?_
  refine lv_iload_n S.1 S.2.1 dX3_wrong_1 rfl (lv_at hl 1 rfl) ?_
  refine b_put (v := .int 1) S iX3 tyX3 tyX3_ok nmX3 hK hP hD hS 0 rfl rfl 2 (by decide) (by decide +kernel) rfl rfl rfl (Nat.le_of_ble_eq_true rfl) dX3_wrong_2 (fun H locs hP hD hS => ?_)
  have hP : va_P D vwCl [(rd, .inr (3, [.ref tp, .ref ct, .int 1, .int 0])), (tp, .inr (5, [.ref by_, .int 0, .int 0, .int 0, .int 0, .int 0]))] H := hP
  have hD : va_D A [(rd, .inr (3, [.ref tp, .ref ct, .int 1, .int 0])), (tp, .inr (5, [.ref by_, .int 0, .int 0, .int 0, .int 0, .int 0]))] := hD
  refine lv_aload_n S.1 S.2.1 dX3_wrong_5 rfl (lv_at hl 0 rfl) ?_
  refine lv_aload_n S.1 S.2.1 dX3_wrong_6 rfl (lv_at hl 0 rfl) ?_
  refine b_get (v := .ref tp) S iX3 hK hP 0 rfl rfl 0 (by decide) (by decide +kernel) rfl dX3_wrong_7 ?_
  refine b_get (v := .int 0) S iX5 hK hP 1 rfl rfl 3 (by decide) (by decide +kernel) rfl dX3_wrong_10 ?_
  refine b_put (v := .int 0) S iX3 tyX3 tyX3_ok nmX3 hK hP hD hS 0 rfl rfl 3 (by decide) (by decide +kernel) rfl rfl rfl (Nat.le_of_ble_eq_true rfl) dX3_wrong_13 (fun H locs hP hD hS => ?_)
  have hP : va_P D vwCl [(rd, .inr (3, [.ref tp, .ref ct, .int 1, .int 0])), (tp, .inr (5, [.ref by_, .int 0, .int 0, .int 0, .int 0, .int 0]))] H := hP
  have hD : va_D A [(rd, .inr (3, [.ref tp, .ref ct, .int 1, .int 0])), (tp, .inr (5, [.ref by_, .int 0, .int 0, .int 0, .int 0, .int 0]))] := hD
  refine lv_iconst (v := 0) S.1 S.2.1 dX3_wrong_16 (by decide) ?_
  exact b_zret S.1 S.2.1 X.2.1 X.2.2.1 rfl hP hD hS ⟨rfl, rfl⟩ dX3_wrong_17
set_option maxHeartbeats 4000000 in
set_option maxRecDepth 100000 in
theorem c_X3_read (l : Launch) (D : va_G) (cI cZ cC cS : ClassId) (sq sz : Nat) (rd : Nat) (tp : Nat) (by_ : Nat) (ct : Nat) (aCells : Nat) (aPrices : Nat) (aFree : Nat) (aPlaces : Nat) (aHomes : Nat) (aManners : Nat) (aGone : Nat) (aPaid : Nat) (aBlinks : Nat) (fa : Nat → Int32) (fb : Nat → Int32) (fc : Nat → Int32) (fd : Nat → Int32) (fe : Nat → Int32) : mI l yX3_read wsX3_read 2 43 D (tyW cI cZ cC cS) sq [(rd, .inr (3, [.ref tp, .ref ct, .int 0, .int 0])), (tp, .inr (5, [.ref by_, .int 0, .int 0, .int 0, .int 0, .int 0])), (ct, .inr (1, [.int 0, .int 0, .int 0, .ref aCells, .ref aPrices, .ref aFree, .ref aPlaces, .ref aHomes, .ref aManners, .ref aGone, .ref aPaid, .ref aBlinks])), (aPrices, .inl (cI, 6, .inl fa)), (aFree, .inl (cI, 6, .inl fb)), (aGone, .inl (cI, 6, .inl fc)), (aPaid, .inl (cI, 36, .inl fd)), (aBlinks, .inl (cI, 36, .inl fe))] sz [.ref rd] (fun r w => r = 0 ∧ w = [(rd, .inr (3, [.ref tp, .ref ct, .int 1, .int 0])), (tp, .inr (5, [.ref by_, .int 0, .int 0, .int 0, .int 0, .int 0]))]) := by
  refine b_metI (cc := cX3_read) (maxL := 1) (ret := (some .boolean)) (by decide) rfl (Nat.le_of_ble_eq_true rfl) ?_
  intro p e s m below meth c ls A H X hsz hP hK hD hA hS hl
  have S : CallFix p m c cX3_read 1 s ([.ref rd] : List Value).toArray wsX3_read RX3 := X.1
  have hl : lv_has ls 1 [(0, .ref rd)] := hl
  have iX3 := jX3_read_X3
  refine lv_aload_n S.1 S.2.1 dX3_read_0 rfl (lv_at hl 0 rfl) ?_
  refine b_get (v := .ref ct) S iX3 hK hP 0 rfl rfl 1 (by decide) (by decide +kernel) rfl dX3_read_1 ?_
  refine b_av (wr := [(rd, .inr (3, [.ref tp, .ref ct, .int 0, .int 0])), (tp, .inr (5, [.ref by_, .int 0, .int 0, .int 0, .int 0, .int 0]))]) (b_runV (q0 := 2) (ci := 1) (As := []) (c_X1_clear l D cI cZ cC cS sq H.size ct aCells aPrices aFree aPlaces aHomes aManners aGone aPaid aBlinks fa fb fc fd fe) S gX3_read_X1_clear rfl hdV_X1_clear ⟨Nat.le_of_ble_eq_true rfl, Nat.le_of_ble_eq_true rfl⟩ ⟨Nat.le_of_ble_eq_true rfl, Nat.le_of_ble_eq_true rfl⟩ hK hP hD rfl rfl [2, 3, 4, 5, 6, 7] rfl (by decide) rfl hl.1 rfl (Nat.le_of_ble_eq_true rfl) dX3_read_4) hP hD hS hA [2, 3, 4, 5, 6, 7] [0, 1] rfl rfl (by decide) (by decide) (fun w_2 H locs hw_3 hP hD hS => ?_)
  subst hw_3
  have hP : va_P D vwCl [(rd, .inr (3, [.ref tp, .ref ct, .int 0, .int 0])), (tp, .inr (5, [.ref by_, .int 0, .int 0, .int 0, .int 0, .int 0])), (ct, .inr (1, [.int 0, .int 0, .int 0, .ref aCells, .ref aPrices, .ref aFree, .ref aPlaces, .ref aHomes, .ref aManners, .ref aGone, .ref aPaid, .ref aBlinks]))] H := hP
  have hD : va_D A [(rd, .inr (3, [.ref tp, .ref ct, .int 0, .int 0])), (tp, .inr (5, [.ref by_, .int 0, .int 0, .int 0, .int 0, .int 0])), (ct, .inr (1, [.int 0, .int 0, .int 0, .ref aCells, .ref aPrices, .ref aFree, .ref aPlaces, .ref aHomes, .ref aManners, .ref aGone, .ref aPaid, .ref aBlinks]))] := hD
  refine lv_aload_n S.1 S.2.1 dX3_read_7 rfl (lv_at hl 0 rfl) ?_
  refine b_get (v := .ref tp) S iX3 hK hP 0 rfl rfl 0 (by decide) (by decide +kernel) rfl dX3_read_8 ?_
  refine b_av (wr := [(rd, .inr (3, [.ref tp, .ref ct, .int 0, .int 0])), (ct, .inr (1, [.int 0, .int 0, .int 0, .ref aCells, .ref aPrices, .ref aFree, .ref aPlaces, .ref aHomes, .ref aManners, .ref aGone, .ref aPaid, .ref aBlinks]))]) (b_runV (q0 := 1) (ci := 5) (As := []) (c_X5_rewind l D cI cZ cC cS sq H.size tp by_) S gX3_read_X5_rewind rfl hdV_X5_rewind ⟨Nat.le_of_ble_eq_true rfl, Nat.le_of_ble_eq_true rfl⟩ ⟨Nat.le_of_ble_eq_true rfl, Nat.le_of_ble_eq_true rfl⟩ hK hP hD rfl rfl [1] rfl (by decide) rfl hl.1 rfl (Nat.le_of_ble_eq_true rfl) dX3_read_11) hP hD hS hA [1] [0, 2] rfl rfl (by decide) (by decide) (fun w_5 H locs hw_6 hP hD hS => ?_)
  subst hw_6
  have hP : va_P D vwCl [(rd, .inr (3, [.ref tp, .ref ct, .int 0, .int 0])), (ct, .inr (1, [.int 0, .int 0, .int 0, .ref aCells, .ref aPrices, .ref aFree, .ref aPlaces, .ref aHomes, .ref aManners, .ref aGone, .ref aPaid, .ref aBlinks])), (tp, .inr (5, [.ref by_, .int 0, .int 0, .int 0, .int 0, .int 0]))] H := hP
  have hD : va_D A [(rd, .inr (3, [.ref tp, .ref ct, .int 0, .int 0])), (ct, .inr (1, [.int 0, .int 0, .int 0, .ref aCells, .ref aPrices, .ref aFree, .ref aPlaces, .ref aHomes, .ref aManners, .ref aGone, .ref aPaid, .ref aBlinks])), (tp, .inr (5, [.ref by_, .int 0, .int 0, .int 0, .int 0, .int 0]))] := hD
  refine lv_aload_n S.1 S.2.1 dX3_read_14 rfl (lv_at hl 0 rfl) ?_
  refine b_get (v := .ref tp) S iX3 hK hP 0 rfl rfl 0 (by decide) (by decide +kernel) rfl dX3_read_15 ?_
  refine va_ldcS (tx := "row") (q := sq) S.1 S.2.1 S.2.2.2.1 hK.2.2.2.2.2.2.2 dX3_read_18 ?_
  refine b_ai (wr := [(rd, .inr (3, [.ref tp, .ref ct, .int 0, .int 0])), (ct, .inr (1, [.int 0, .int 0, .int 0, .ref aCells, .ref aPrices, .ref aFree, .ref aPlaces, .ref aHomes, .ref aManners, .ref aGone, .ref aPaid, .ref aBlinks]))]) (b_runV (q0 := 2) (ci := 5) (As := [.ref sq]) (c_X5_isWord l D cI cZ cC cS sq H.size tp by_ sq) S gX3_read_X5_isWord rfl hdV_X5_isWord ⟨Nat.le_of_ble_eq_true rfl, Nat.le_of_ble_eq_true rfl⟩ ⟨Nat.le_of_ble_eq_true rfl, Nat.le_of_ble_eq_true rfl⟩ hK hP hD rfl rfl [2] rfl (by decide) rfl hl.1 rfl (Nat.le_of_ble_eq_true rfl) dX3_read_20) hP hD hS hA [2] [0, 1] rfl rfl (by decide) (by decide) (fun r_7 w_8 H locs hw_9 hP hD hS => ?_)
  obtain ⟨rfl, rfl⟩ := hw_9
  have hP : va_P D vwCl [(rd, .inr (3, [.ref tp, .ref ct, .int 0, .int 0])), (ct, .inr (1, [.int 0, .int 0, .int 0, .ref aCells, .ref aPrices, .ref aFree, .ref aPlaces, .ref aHomes, .ref aManners, .ref aGone, .ref aPaid, .ref aBlinks])), (tp, .inr (5, [.ref by_, .int 0, .int 0, .int 0, .int 0, .int 0]))] H := hP
  have hD : va_D A [(rd, .inr (3, [.ref tp, .ref ct, .int 0, .int 0])), (ct, .inr (1, [.int 0, .int 0, .int 0, .ref aCells, .ref aPrices, .ref aFree, .ref aPlaces, .ref aHomes, .ref aManners, .ref aGone, .ref aPaid, .ref aBlinks])), (tp, .inr (5, [.ref by_, .int 0, .int 0, .int 0, .int 0, .int 0]))] := hD
  refine lv_if_ne (tgt := 32) S.1 S.2.1 dX3_read_23 (by decide) (fun c_10 => absurd c_10 (by decide)) (fun c_10 => ?_)
  refine lv_aload_n S.1 S.2.1 dX3_read_26 rfl (lv_at hl 0 rfl) ?_
  refine lv_iconst (v := 1) S.1 S.2.1 dX3_read_27 (by decide) ?_
  refine b_ai (wr := [(ct, .inr (1, [.int 0, .int 0, .int 0, .ref aCells, .ref aPrices, .ref aFree, .ref aPlaces, .ref aHomes, .ref aManners, .ref aGone, .ref aPaid, .ref aBlinks]))]) (b_runV (q0 := 0) (ci := 3) (As := [.int 1]) (c_X3_wrong_1 l D cI cZ cC cS sq H.size rd tp ct by_) S gX3_read_X3_wrong rfl hdV_X3_wrong ⟨Nat.le_of_ble_eq_true rfl, Nat.le_of_ble_eq_true rfl⟩ ⟨Nat.le_of_ble_eq_true rfl, Nat.le_of_ble_eq_true rfl⟩ hK hP hD rfl rfl [0, 2] rfl (by decide) rfl hl.1 rfl (Nat.le_of_ble_eq_true rfl) dX3_read_28) hP hD hS hA [0, 2] [1] rfl rfl (by decide) (by decide) (fun r_11 w_12 H locs hw_13 hP hD hS => ?_)
  obtain ⟨rfl, rfl⟩ := hw_13
  have hP : va_P D vwCl [(ct, .inr (1, [.int 0, .int 0, .int 0, .ref aCells, .ref aPrices, .ref aFree, .ref aPlaces, .ref aHomes, .ref aManners, .ref aGone, .ref aPaid, .ref aBlinks])), (rd, .inr (3, [.ref tp, .ref ct, .int 1, .int 0])), (tp, .inr (5, [.ref by_, .int 0, .int 0, .int 0, .int 0, .int 0]))] H := hP
  have hD : va_D A [(ct, .inr (1, [.int 0, .int 0, .int 0, .ref aCells, .ref aPrices, .ref aFree, .ref aPlaces, .ref aHomes, .ref aManners, .ref aGone, .ref aPaid, .ref aBlinks])), (rd, .inr (3, [.ref tp, .ref ct, .int 1, .int 0])), (tp, .inr (5, [.ref by_, .int 0, .int 0, .int 0, .int 0, .int 0]))] := hD
  have hP := hP.sub (ws' := [(rd, .inr (3, [.ref tp, .ref ct, .int 1, .int 0])), (tp, .inr (5, [.ref by_, .int 0, .int 0, .int 0, .int 0, .int 0]))]) [1, 2] rfl
  have hD := hD.sub (ws' := [(rd, .inr (3, [.ref tp, .ref ct, .int 1, .int 0])), (tp, .inr (5, [.ref by_, .int 0, .int 0, .int 0, .int 0, .int 0]))]) [1, 2] (by decide) rfl
  exact b_zret S.1 S.2.1 X.2.1 X.2.2.1 rfl hP hD hS ⟨rfl, rfl⟩ dX3_read_31
