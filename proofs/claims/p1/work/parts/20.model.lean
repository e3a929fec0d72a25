set_option maxRecDepth 20000 in
theorem ggX9_begin_X9_next : GoodIn wsX9_begin wsX9_next := goodIn_r _ [9, 3, 10, 11, 12, 13, 14, 15, 16, 8, 17, 2, 18, 19, 20, 21, 22, 23, 24, 25, 26, 27, 28, 29, 30, 31, 32, 33, 34, 35, 36, 37, 38, 39, 40, 41, 42, 43, 44, 45, 46, 47, 48, 49, 50, 51, 52, 53] (by decide +kernel) (by decide +kernel)
set_option maxRecDepth 20000 in
theorem gX9_begin_X9_next : GoodIn wsX9_begin (wsV RX9 114 RX9 yX9_next wsX9_next) := goodIn_app (goodIn_of _ (by decide +kernel)) ggX9_begin_X9_next
set_option maxRecDepth 20000 in
theorem ggX9_isCell_X9_in : GoodIn wsX9_isCell wsX9_in := goodIn_r _ [5] (by decide +kernel) (by decide +kernel)
set_option maxRecDepth 20000 in
theorem gX9_isCell_X9_in : GoodIn wsX9_isCell (va_wsS RX9 63 yX9_in wsX9_in) := goodIn_app (goodIn_of _ (by decide +kernel)) ggX9_isCell_X9_in
set_option maxRecDepth 20000 in
theorem ggX9_isCell_X9_isIn : GoodIn wsX9_isCell wsX9_isIn := goodIn_r _ [9, 10, 2, 3, 4, 5, 11, 12, 13, 14, 15, 16, 17, 18, 19, 20, 21, 22, 23, 24, 25, 26, 27, 28, 29, 30, 31, 32, 33, 34, 35, 36, 37, 38, 39] (by decide +kernel) (by decide +kernel)
set_option maxRecDepth 20000 in
theorem gX9_isCell_X9_isIn : GoodIn wsX9_isCell (wsV RX9 191 RX9 yX9_isIn wsX9_isIn) := goodIn_app (goodIn_of _ (by decide +kernel)) ggX9_isCell_X9_isIn
set_option maxRecDepth 20000 in
theorem ggX9_isIn_X9_in : GoodIn wsX9_isIn wsX9_in := goodIn_r _ [5] (by decide +kernel) (by decide +kernel)
set_option maxRecDepth 20000 in
theorem gX9_isIn_X9_in : GoodIn wsX9_isIn (va_wsS RX9 63 yX9_in wsX9_in) := goodIn_app (goodIn_of _ (by decide +kernel)) ggX9_isIn_X9_in
set_option maxRecDepth 20000 in
theorem ggX9_isOne_X9_in : GoodIn wsX9_isOne wsX9_in := goodIn_r _ [5] (by decide +kernel) (by decide +kernel)
set_option maxRecDepth 20000 in
theorem gX9_isOne_X9_in : GoodIn wsX9_isOne (va_wsS RX9 63 yX9_in wsX9_in) := goodIn_app (goodIn_of _ (by decide +kernel)) ggX9_isOne_X9_in
set_option maxRecDepth 20000 in
theorem ggX9_isOpen_X9_isCell : GoodIn wsX9_isOpen wsX9_isCell := goodIn_r _ [6, 7, 8, 9, 5, 10, 11, 12, 13, 14, 1, 15, 16, 17, 18, 19, 20, 21, 22, 23, 24, 25, 26, 27, 28, 29, 30, 31, 32, 33, 34, 35, 36, 37, 38, 39, 40, 41, 42, 43] (by decide +kernel) (by decide +kernel)
set_option maxRecDepth 20000 in
theorem gX9_isOpen_X9_isCell : GoodIn wsX9_isOpen (wsV RX9 195 RX9 yX9_isCell wsX9_isCell) := goodIn_app (goodIn_of _ (by decide +kernel)) ggX9_isOpen_X9_isCell
set_option maxRecDepth 20000 in
theorem ggX9_isSheet_X9_in : GoodIn wsX9_isSheet wsX9_in := goodIn_r _ [5] (by decide +kernel) (by decide +kernel)
set_option maxRecDepth 20000 in
theorem gX9_isSheet_X9_in : GoodIn wsX9_isSheet (va_wsS RX9 63 yX9_in wsX9_in) := goodIn_app (goodIn_of _ (by decide +kernel)) ggX9_isSheet_X9_in
set_option maxRecDepth 20000 in
theorem ggX9_next_X9_byteAt : GoodIn wsX9_next wsX9_byteAt := goodIn_r _ [10, 11, 12, 3, 19, 20, 21, 22, 23, 24, 25, 26, 27, 28, 29, 30, 31, 32, 33, 34, 35, 36, 37, 38, 39, 40, 41, 42, 43, 44, 45, 46, 47] (by decide +kernel) (by decide +kernel)
set_option maxRecDepth 20000 in
theorem gX9_next_X9_byteAt : GoodIn wsX9_next (wsV RX9 93 RX9 yX9_byteAt wsX9_byteAt) := goodIn_app (goodIn_of _ (by decide +kernel)) ggX9_next_X9_byteAt
theorem dX9_bad_0 : decode cX9_bad 0 = .ok (.aload_n 0, 1) := by decide +kernel
theorem dX9_bad_1 : decode cX9_bad 1 = .ok (.getfield 111, 3) := by decide +kernel
theorem dX9_bad_12 : decode cX9_bad 12 = .ok (.aload_n 0, 1) := by decide +kernel
theorem dX9_bad_13 : decode cX9_bad 13 = .ok (.aload_n 0, 1) := by decide +kernel
theorem dX9_bad_14 : decode cX9_bad 14 = .ok (.getfield 96, 3) := by decide +kernel
theorem dX9_bad_17 : decode cX9_bad 17 = .ok (.putfield 117, 3) := by decide +kernel
theorem dX9_bad_20 : decode cX9_bad 20 = .ok (.return_, 1) := by decide +kernel
theorem dX9_bad_4 : decode cX9_bad 4 = .ok (.ifCond .ne 16, 3) := by decide +kernel
theorem dX9_bad_7 : decode cX9_bad 7 = .ok (.aload_n 0, 1) := by decide +kernel
theorem dX9_bad_8 : decode cX9_bad 8 = .ok (.iload_n 1, 1) := by decide +kernel
theorem dX9_bad_9 : decode cX9_bad 9 = .ok (.putfield 111, 3) := by decide +kernel
theorem dX9_begin_0 : decode cX9_begin 0 = .ok (.aload_n 0, 1) := by decide +kernel
theorem dX9_begin_1 : decode cX9_begin 1 = .ok (.aload_n 0, 1) := by decide +kernel
theorem dX9_begin_10 : decode cX9_begin 10 = .ok (.putfield 80, 3) := by decide +kernel
theorem dX9_begin_13 : decode cX9_begin 13 = .ok (.aload_n 0, 1) := by decide +kernel
theorem dX9_begin_14 : decode cX9_begin 14 = .ok (.iconst 0, 1) := by decide +kernel
theorem dX9_begin_15 : decode cX9_begin 15 = .ok (.putfield 90, 3) := by decide +kernel
theorem dX9_begin_18 : decode cX9_begin 18 = .ok (.aload_n 0, 1) := by decide +kernel
theorem dX9_begin_19 : decode cX9_begin 19 = .ok (.iconst 0, 1) := by decide +kernel
theorem dX9_begin_2 : decode cX9_begin 2 = .ok (.getfield 80, 3) := by decide +kernel
theorem dX9_begin_20 : decode cX9_begin 20 = .ok (.putfield 111, 3) := by decide +kernel
theorem dX9_begin_23 : decode cX9_begin 23 = .ok (.aload_n 0, 1) := by decide +kernel
theorem dX9_begin_24 : decode cX9_begin 24 = .ok (.invokevirtual 114, 3) := by decide +kernel
theorem dX9_begin_27 : decode cX9_begin 27 = .ok (.return_, 1) := by decide +kernel
theorem dX9_begin_5 : decode cX9_begin 5 = .ok (.putfield 86, 3) := by decide +kernel
theorem dX9_begin_8 : decode cX9_begin 8 = .ok (.aload_n 0, 1) := by decide +kernel
theorem dX9_begin_9 : decode cX9_begin 9 = .ok (.iconst 0, 1) := by decide +kernel
theorem dX9_byteAt_0 : decode cX9_byteAt 0 = .ok (.iload_n 1, 1) := by decide +kernel
theorem dX9_byteAt_1 : decode cX9_byteAt 1 = .ok (.aload_n 0, 1) := by decide +kernel
theorem dX9_byteAt_17 : decode cX9_byteAt 17 = .ok (.ldc 89, 2) := by decide +kernel
theorem dX9_byteAt_19 : decode cX9_byteAt 19 = .ok (.ireturn, 1) := by decide +kernel
theorem dX9_byteAt_2 : decode cX9_byteAt 2 = .ok (.getfield 86, 3) := by decide +kernel
theorem dX9_byteAt_5 : decode cX9_byteAt 5 = .ok (.if_icmp .ge 12, 3) := by decide +kernel
theorem dX9_finding_0 : decode cX9_finding 0 = .ok (.aload_n 0, 1) := by decide +kernel
theorem dX9_finding_1 : decode cX9_finding 1 = .ok (.iload_n 1, 1) := by decide +kernel
theorem dX9_finding_2 : decode cX9_finding 2 = .ok (.putfield 57, 3) := by decide +kernel
theorem dX9_finding_5 : decode cX9_finding 5 = .ok (.ldc 60, 2) := by decide +kernel
theorem dX9_finding_7 : decode cX9_finding 7 = .ok (.iload_n 1, 1) := by decide +kernel
theorem dX9_finding_8 : decode cX9_finding 8 = .ok (.isub, 1) := by decide +kernel
theorem dX9_finding_9 : decode cX9_finding 9 = .ok (.ireturn, 1) := by decide +kernel
theorem dX9_in_0 : decode cX9_in 0 = .ok (.lload_n 0, 1) := by decide +kernel
theorem dX9_in_1 : decode cX9_in 1 = .ok (.lload_n 2, 1) := by decide +kernel
theorem dX9_in_10 : decode cX9_in 10 = .ok (.ifCond .gt 7, 3) := by decide +kernel
theorem dX9_in_13 : decode cX9_in 13 = .ok (.iconst 1, 1) := by decide +kernel
theorem dX9_in_14 : decode cX9_in 14 = .ok (.goto 4, 3) := by decide +kernel
theorem dX9_in_17 : decode cX9_in 17 = .ok (.iconst 0, 1) := by decide +kernel
theorem dX9_in_18 : decode cX9_in 18 = .ok (.ireturn, 1) := by decide +kernel
theorem dX9_in_2 : decode cX9_in 2 = .ok (.lcmp, 1) := by decide +kernel
theorem dX9_in_3 : decode cX9_in 3 = .ok (.ifCond .lt 14, 3) := by decide +kernel
theorem dX9_in_6 : decode cX9_in 6 = .ok (.lload_n 0, 1) := by decide +kernel
theorem dX9_in_7 : decode cX9_in 7 = .ok (.lload 4, 2) := by decide +kernel
theorem dX9_in_9 : decode cX9_in 9 = .ok (.lcmp, 1) := by decide +kernel
theorem dX9_isCell_0 : decode cX9_isCell 0 = .ok (.iload_n 1, 1) := by decide +kernel
theorem dX9_isCell_1 : decode cX9_isCell 1 = .ok (.i2l, 1) := by decide +kernel
theorem dX9_isCell_12 : decode cX9_isCell 12 = .ok (.aload_n 0, 1) := by decide +kernel
theorem dX9_isCell_13 : decode cX9_isCell 13 = .ok (.iload_n 1, 1) := by decide +kernel
theorem dX9_isCell_14 : decode cX9_isCell 14 = .ok (.bipush 10, 2) := by decide +kernel
theorem dX9_isCell_16 : decode cX9_isCell 16 = .ok (.irem, 1) := by decide +kernel
theorem dX9_isCell_17 : decode cX9_isCell 17 = .ok (.iload_n 1, 1) := by decide +kernel
theorem dX9_isCell_18 : decode cX9_isCell 18 = .ok (.bipush 10, 2) := by decide +kernel
theorem dX9_isCell_2 : decode cX9_isCell 2 = .ok (.lconst 0, 1) := by decide +kernel
theorem dX9_isCell_20 : decode cX9_isCell 20 = .ok (.idiv, 1) := by decide +kernel
theorem dX9_isCell_21 : decode cX9_isCell 21 = .ok (.invokevirtual 191, 3) := by decide +kernel
theorem dX9_isCell_24 : decode cX9_isCell 24 = .ok (.ifCond .eq 7, 3) := by decide +kernel
theorem dX9_isCell_3 : decode cX9_isCell 3 = .ok (.ldc2_w 189, 3) := by decide +kernel
theorem dX9_isCell_31 : decode cX9_isCell 31 = .ok (.iconst 0, 1) := by decide +kernel
theorem dX9_isCell_32 : decode cX9_isCell 32 = .ok (.ireturn, 1) := by decide +kernel
theorem dX9_isCell_6 : decode cX9_isCell 6 = .ok (.invokestatic 63, 3) := by decide +kernel
theorem dX9_isCell_9 : decode cX9_isCell 9 = .ok (.ifCond .eq 22, 3) := by decide +kernel
theorem dX9_isIn_0 : decode cX9_isIn 0 = .ok (.iload_n 1, 1) := by decide +kernel
theorem dX9_isIn_1 : decode cX9_isIn 1 = .ok (.i2l, 1) := by decide +kernel
theorem dX9_isIn_10 : decode cX9_isIn 10 = .ok (.isub, 1) := by decide +kernel
theorem dX9_isIn_11 : decode cX9_isIn 11 = .ok (.i2l, 1) := by decide +kernel
theorem dX9_isIn_12 : decode cX9_isIn 12 = .ok (.invokestatic 63, 3) := by decide +kernel
theorem dX9_isIn_15 : decode cX9_isIn 15 = .ok (.ifCond .eq 25, 3) := by decide +kernel
theorem dX9_isIn_2 : decode cX9_isIn 2 = .ok (.lconst 0, 1) := by decide +kernel
theorem dX9_isIn_3 : decode cX9_isIn 3 = .ok (.aload_n 0, 1) := by decide +kernel
theorem dX9_isIn_4 : decode cX9_isIn 4 = .ok (.getfield 19, 3) := by decide +kernel
theorem dX9_isIn_40 : decode cX9_isIn 40 = .ok (.iconst 0, 1) := by decide +kernel
theorem dX9_isIn_41 : decode cX9_isIn 41 = .ok (.ireturn, 1) := by decide +kernel
theorem dX9_isIn_7 : decode cX9_isIn 7 = .ok (.iconst 0, 1) := by decide +kernel
theorem dX9_isIn_8 : decode cX9_isIn 8 = .ok (.iaload, 1) := by decide +kernel
theorem dX9_isIn_9 : decode cX9_isIn 9 = .ok (.iconst 1, 1) := by decide +kernel
theorem dX9_isOne_0 : decode cX9_isOne 0 = .ok (.iload_n 1, 1) := by decide +kernel
theorem dX9_isOne_1 : decode cX9_isOne 1 = .ok (.i2l, 1) := by decide +kernel
theorem dX9_isOne_10 : decode cX9_isOne 10 = .ok (.isub, 1) := by decide +kernel
theorem dX9_isOne_11 : decode cX9_isOne 11 = .ok (.i2l, 1) := by decide +kernel
theorem dX9_isOne_12 : decode cX9_isOne 12 = .ok (.invokestatic 63, 3) := by decide +kernel
theorem dX9_isOne_15 : decode cX9_isOne 15 = .ok (.ireturn, 1) := by decide +kernel
theorem dX9_isOne_2 : decode cX9_isOne 2 = .ok (.lconst 0, 1) := by decide +kernel
theorem dX9_isOne_3 : decode cX9_isOne 3 = .ok (.aload_n 0, 1) := by decide +kernel
theorem dX9_isOne_4 : decode cX9_isOne 4 = .ok (.getfield 19, 3) := by decide +kernel
theorem dX9_isOne_7 : decode cX9_isOne 7 = .ok (.iconst 3, 1) := by decide +kernel
theorem dX9_isOne_8 : decode cX9_isOne 8 = .ok (.iaload, 1) := by decide +kernel
theorem dX9_isOne_9 : decode cX9_isOne 9 = .ok (.iconst 1, 1) := by decide +kernel
theorem dX9_isOpen_0 : decode cX9_isOpen 0 = .ok (.aload_n 0, 1) := by decide +kernel
theorem dX9_isOpen_1 : decode cX9_isOpen 1 = .ok (.iload_n 1, 1) := by decide +kernel
theorem dX9_isOpen_2 : decode cX9_isOpen 2 = .ok (.invokevirtual 195, 3) := by decide +kernel
theorem dX9_isOpen_25 : decode cX9_isOpen 25 = .ok (.iconst 0, 1) := by decide +kernel
theorem dX9_isOpen_26 : decode cX9_isOpen 26 = .ok (.ireturn, 1) := by decide +kernel
theorem dX9_isOpen_5 : decode cX9_isOpen 5 = .ok (.ifCond .eq 20, 3) := by decide +kernel
theorem dX9_isSheet_0 : decode cX9_isSheet 0 = .ok (.iload_n 0, 1) := by decide +kernel
theorem dX9_isSheet_1 : decode cX9_isSheet 1 = .ok (.i2l, 1) := by decide +kernel
theorem dX9_isSheet_2 : decode cX9_isSheet 2 = .ok (.lconst 0, 1) := by decide +kernel
theorem dX9_isSheet_3 : decode cX9_isSheet 3 = .ok (.ldc2_w 61, 3) := by decide +kernel
theorem dX9_isSheet_6 : decode cX9_isSheet 6 = .ok (.invokestatic 63, 3) := by decide +kernel
theorem dX9_isSheet_9 : decode cX9_isSheet 9 = .ok (.ireturn, 1) := by decide +kernel
theorem dX9_name_0 : decode cX9_name 0 = .ok (.lconst 0, 1) := by decide +kernel
theorem dX9_name_1 : decode cX9_name 1 = .ok (.lstore_n 1, 1) := by decide +kernel
theorem dX9_name_12 : decode cX9_name 12 = .ok (.if_icmp .ge 44, 3) := by decide +kernel
theorem dX9_name_2 : decode cX9_name 2 = .ok (.aload_n 0, 1) := by decide +kernel
theorem dX9_name_3 : decode cX9_name 3 = .ok (.getfield 96, 3) := by decide +kernel
theorem dX9_name_56 : decode cX9_name 56 = .ok (.aload_n 0, 1) := by decide +kernel
theorem dX9_name_57 : decode cX9_name 57 = .ok (.getfield 111, 3) := by decide +kernel
theorem dX9_name_6 : decode cX9_name 6 = .ok (.istore_n 3, 1) := by decide +kernel
theorem dX9_name_60 : decode cX9_name 60 = .ok (.ifCond .ne 7, 3) := by decide +kernel
theorem dX9_name_63 : decode cX9_name 63 = .ok (.lload_n 1, 1) := by decide +kernel
theorem dX9_name_64 : decode cX9_name 64 = .ok (.goto 4, 3) := by decide +kernel
theorem dX9_name_67 : decode cX9_name 67 = .ok (.lconst 0, 1) := by decide +kernel
theorem dX9_name_68 : decode cX9_name 68 = .ok (.lreturn, 1) := by decide +kernel
theorem dX9_name_7 : decode cX9_name 7 = .ok (.iload_n 3, 1) := by decide +kernel
theorem dX9_name_8 : decode cX9_name 8 = .ok (.aload_n 0, 1) := by decide +kernel
theorem dX9_name_9 : decode cX9_name 9 = .ok (.getfield 108, 3) := by decide +kernel
theorem dX9_next_0 : decode cX9_next 0 = .ok (.aload_n 0, 1) := by decide +kernel
theorem dX9_next_1 : decode cX9_next 1 = .ok (.aload_n 0, 1) := by decide +kernel
theorem dX9_next_10 : decode cX9_next 10 = .ok (.if_icmp .eq 16, 3) := by decide +kernel
theorem dX9_next_13 : decode cX9_next 13 = .ok (.aload_n 0, 1) := by decide +kernel
theorem dX9_next_14 : decode cX9_next 14 = .ok (.aload_n 0, 1) := by decide +kernel
theorem dX9_next_15 : decode cX9_next 15 = .ok (.getfield 90, 3) := by decide +kernel
theorem dX9_next_18 : decode cX9_next 18 = .ok (.invokevirtual 93, 3) := by decide +kernel
theorem dX9_next_196 : decode cX9_next 196 = .ok (.aload_n 0, 1) := by decide +kernel
theorem dX9_next_197 : decode cX9_next 197 = .ok (.aload_n 0, 1) := by decide +kernel
theorem dX9_next_198 : decode cX9_next 198 = .ok (.getfield 90, 3) := by decide +kernel
theorem dX9_next_2 : decode cX9_next 2 = .ok (.getfield 90, 3) := by decide +kernel
theorem dX9_next_201 : decode cX9_next 201 = .ok (.putfield 108, 3) := by decide +kernel
theorem dX9_next_204 : decode cX9_next 204 = .ok (.return_, 1) := by decide +kernel
theorem dX9_next_21 : decode cX9_next 21 = .ok (.bipush 10, 2) := by decide +kernel
theorem dX9_next_23 : decode cX9_next 23 = .ok (.if_icmp .ne 16, 3) := by decide +kernel
theorem dX9_next_39 : decode cX9_next 39 = .ok (.aload_n 0, 1) := by decide +kernel
theorem dX9_next_40 : decode cX9_next 40 = .ok (.aload_n 0, 1) := by decide +kernel
theorem dX9_next_41 : decode cX9_next 41 = .ok (.getfield 90, 3) := by decide +kernel
theorem dX9_next_44 : decode cX9_next 44 = .ok (.putfield 96, 3) := by decide +kernel
theorem dX9_next_47 : decode cX9_next 47 = .ok (.aload_n 0, 1) := by decide +kernel
theorem dX9_next_48 : decode cX9_next 48 = .ok (.aload_n 0, 1) := by decide +kernel
theorem dX9_next_49 : decode cX9_next 49 = .ok (.getfield 90, 3) := by decide +kernel
theorem dX9_next_5 : decode cX9_next 5 = .ok (.invokevirtual 93, 3) := by decide +kernel
theorem dX9_next_52 : decode cX9_next 52 = .ok (.invokevirtual 93, 3) := by decide +kernel
theorem dX9_next_55 : decode cX9_next 55 = .ok (.istore_n 1, 1) := by decide +kernel
theorem dX9_next_56 : decode cX9_next 56 = .ok (.iload_n 1, 1) := by decide +kernel
theorem dX9_next_57 : decode cX9_next 57 = .ok (.ldc 89, 2) := by decide +kernel
theorem dX9_next_59 : decode cX9_next 59 = .ok (.if_icmp .ne 11, 3) := by decide +kernel
theorem dX9_next_62 : decode cX9_next 62 = .ok (.aload_n 0, 1) := by decide +kernel
theorem dX9_next_63 : decode cX9_next 63 = .ok (.iconst 1, 1) := by decide +kernel
theorem dX9_next_64 : decode cX9_next 64 = .ok (.putfield 99, 3) := by decide +kernel
theorem dX9_next_67 : decode cX9_next 67 = .ok (.goto 129, 3) := by decide +kernel
theorem dX9_next_8 : decode cX9_next 8 = .ok (.bipush 32, 2) := by decide +kernel
theorem jX9_bad_X9 : ∀ w ∈ u_ws RX9 TX9 29, w ∈ wsX9_bad := fun w h => List.mem_cons_of_mem _ (List.mem_append_right _ h)
theorem jX9_begin_X9 : ∀ w ∈ u_ws RX9 TX9 29, w ∈ wsX9_begin := fun w h => List.mem_cons_of_mem _ (List.mem_append_right _ h)
theorem jX9_byteAt_X9 : ∀ w ∈ u_ws RX9 TX9 29, w ∈ wsX9_byteAt := fun w h => List.mem_cons_of_mem _ (List.mem_append_right _ h)
theorem jX9_finding_X9 : ∀ w ∈ u_ws RX9 TX9 29, w ∈ wsX9_finding := fun w h => List.mem_cons_of_mem _ (List.mem_append_right _ h)
theorem jX9_isIn_X9 : ∀ w ∈ u_ws RX9 TX9 29, w ∈ wsX9_isIn := fun w h => List.mem_cons_of_mem _ (List.mem_append_right _ h)
theorem jX9_isOne_X9 : ∀ w ∈ u_ws RX9 TX9 29, w ∈ wsX9_isOne := fun w h => List.mem_cons_of_mem _ (List.mem_append_right _ h)
theorem jX9_name_X9 : ∀ w ∈ u_ws RX9 TX9 29, w ∈ wsX9_name := fun w h => List.mem_cons_of_mem _ (List.mem_append_right _ h)
theorem jX9_next_X9 : ∀ w ∈ u_ws RX9 TX9 29, w ∈ wsX9_next := fun w h => List.mem_cons_of_mem _ (List.mem_append_right _ h)
theorem hdS_X9_in : yX9_in.cls ≠ "java/lang/invoke/MethodHandle" ∧ yX9_in.cls ≠ "java/lang/invoke/VarHandle" ∧ (parseMethodDescriptor yX9_in.desc).map (fun d => d.parameters.length) = some 3 := by decide +kernel
theorem hdV_X9_byteAt : yX9_byteAt.cls = RX9 ∧ yX9_byteAt.cls ≠ "java/lang/invoke/MethodHandle" ∧ yX9_byteAt.cls ≠ "java/lang/invoke/VarHandle" ∧ (parseMethodDescriptor yX9_byteAt.desc).map (fun d => d.parameters.length) = some 1 := by decide +kernel
theorem hdV_X9_isCell : yX9_isCell.cls = RX9 ∧ yX9_isCell.cls ≠ "java/lang/invoke/MethodHandle" ∧ yX9_isCell.cls ≠ "java/lang/invoke/VarHandle" ∧ (parseMethodDescriptor yX9_isCell.desc).map (fun d => d.parameters.length) = some 1 := by decide +kernel
theorem hdV_X9_isIn : yX9_isIn.cls = RX9 ∧ yX9_isIn.cls ≠ "java/lang/invoke/MethodHandle" ∧ yX9_isIn.cls ≠ "java/lang/invoke/VarHandle" ∧ (parseMethodDescriptor yX9_isIn.desc).map (fun d => d.parameters.length) = some 2 := by decide +kernel
theorem hdV_X9_next : yX9_next.cls = RX9 ∧ yX9_next.cls ≠ "java/lang/invoke/MethodHandle" ∧ yX9_next.cls ≠ "java/lang/invoke/VarHandle" ∧ (parseMethodDescriptor yX9_next.desc).map (fun d => d.parameters.length) = some 0 := by decide +kernel
set_option maxHeartbeats 4000000 in
set_option maxRecDepth 100000 in
theorem c_X9_in_t (l : Launch) (D : va_G) (cI cZ cC cS : ClassId) (sq sz : Nat) (v : Int64) (lo : Int64) (hi : Int64) (h1 : ¬ v < lo) (h2 : ¬ hi < v) : mI l yX9_in wsX9_in 0 0 D (tyW cI cZ cC cS) sq [] sz [.long v, .long lo, .long hi] (fun r w => r = 1 ∧ w = []) := by
  refine b_metI (cc := cX9_in) (maxL := 6) (ret := (some .boolean)) (by decide) rfl (Nat.le_of_ble_eq_true rfl) ?_
  intro p e s m below meth c ls A H X hsz hP hK hD hA hS hl
  have S : CallFix p m c cX9_in 6 s ([.long v, .long lo, .long hi] : List Value).toArray wsX9_in RX9 := X.1
  have hl : lv_has ls 6 [(0, .long v), (2, .long lo), (4, .long hi)] := hl
  refine lv_lload_n S.1 S.2.1 dX9_in_0 rfl (lv_at hl 0 rfl) ?_
  refine lv_lload_n S.1 S.2.1 dX9_in_1 rfl (lv_at hl 1 rfl) ?_
  refine W.lcmp S.1 S.2.1 dX9_in_2 ?_
  refine lv_if_lt (tgt := 17) S.1 S.2.1 dX9_in_3 (by decide) (fun c_1 => absurd ((lg_cmp_lt _ _).mp c_1) h1) (fun c_1 => ?_)
  refine lv_lload_n S.1 S.2.1 dX9_in_6 rfl (lv_at hl 0 rfl) ?_
  refine lv_lload S.1 S.2.1 dX9_in_7 (lv_at hl 2 rfl) ?_
  refine W.lcmp S.1 S.2.1 dX9_in_9 ?_
  refine lv_if_gt (tgt := 17) S.1 S.2.1 dX9_in_10 (by decide) (fun c_2 => absurd ((lg_cmp_gt _ _).mp c_2) h2) (fun c_2 => ?_)
  refine lv_iconst (v := 1) S.1 S.2.1 dX9_in_13 (by decide) ?_
  refine lv_goto (tgt := 18) S.1 S.2.1 dX9_in_14 (by decide) ?_
  exact b_zret S.1 S.2.1 X.2.1 X.2.2.1 rfl hP hD hS ⟨rfl, rfl⟩ dX9_in_18
set_option maxHeartbeats 4000000 in
set_option maxRecDepth 100000 in
theorem c_X9_in_f1 (l : Launch) (D : va_G) (cI cZ cC cS : ClassId) (sq sz : Nat) (v : Int64) (lo : Int64) (hi : Int64) (h1 : v < lo) : mI l yX9_in wsX9_in 0 0 D (tyW cI cZ cC cS) sq [] sz [.long v, .long lo, .long hi] (fun r w => r = 0 ∧ w = []) := by
  refine b_metI (cc := cX9_in) (maxL := 6) (ret := (some .boolean)) (by decide) rfl (Nat.le_of_ble_eq_true rfl) ?_
  intro p e s m below meth c ls A H X hsz hP hK hD hA hS hl
  have S : CallFix p m c cX9_in 6 s ([.long v, .long lo, .long hi] : List Value).toArray wsX9_in RX9 := X.1
  have hl : lv_has ls 6 [(0, .long v), (2, .long lo), (4, .long hi)] := hl
  refine lv_lload_n S.1 S.2.1 dX9_in_0 rfl (lv_at hl 0 rfl) ?_
  refine lv_lload_n S.1 S.2.1 dX9_in_1 rfl (lv_at hl 1 rfl) ?_
  refine W.lcmp S.1 S.2.1 dX9_in_2 ?_
  refine lv_if_lt (tgt := 17) S.1 S.2.1 dX9_in_3 (by decide) (fun c_1 => ?_) (fun c_1 => absurd ((lg_cmp_lt _ _).mpr h1) c_1)
  refine lv_iconst (v := 0) S.1 S.2.1 dX9_in_17 (by decide) ?_
  exact b_zret S.1 S.2.1 X.2.1 X.2.2.1 rfl hP hD hS ⟨rfl, rfl⟩ dX9_in_18
set_option maxHeartbeats 4000000 in
set_option maxRecDepth 100000 in
theorem c_X9_in_f2 (l : Launch) (D : va_G) (cI cZ cC cS : ClassId) (sq sz : Nat) (v : Int64) (lo : Int64) (hi : Int64) (h1 : ¬ v < lo) (h2 : hi < v) : mI l yX9_in wsX9_in 0 0 D (tyW cI cZ cC cS) sq [] sz [.long v, .long lo, .long hi] (fun r w => r = 0 ∧ w = []) := by
  refine b_metI (cc := cX9_in) (maxL := 6) (ret := (some .boolean)) (by decide) rfl (Nat.le_of_ble_eq_true rfl) ?_
  intro p e s m below meth c ls A H X hsz hP hK hD hA hS hl
  have S : CallFix p m c cX9_in 6 s ([.long v, .long lo, .long hi] : List Value).toArray wsX9_in RX9 := X.1
  have hl : lv_has ls 6 [(0, .long v), (2, .long lo), (4, .long hi)] := hl
  refine lv_lload_n S.1 S.2.1 dX9_in_0 rfl (lv_at hl 0 rfl) ?_
  refine lv_lload_n S.1 S.2.1 dX9_in_1 rfl (lv_at hl 1 rfl) ?_
  refine W.lcmp S.1 S.2.1 dX9_in_2 ?_
  refine lv_if_lt (tgt := 17) S.1 S.2.1 dX9_in_3 (by decide) (fun c_1 => absurd ((lg_cmp_lt _ _).mp c_1) h1) (fun c_1 => ?_)
  refine lv_lload_n S.1 S.2.1 dX9_in_6 rfl (lv_at hl 0 rfl) ?_
  refine lv_lload S.1 S.2.1 dX9_in_7 (lv_at hl 2 rfl) ?_
  refine W.lcmp S.1 S.2.1 dX9_in_9 ?_
  refine lv_if_gt (tgt := 17) S.1 S.2.1 dX9_in_10 (by decide) (fun c_2 => ?_) (fun c_2 => absurd ((lg_cmp_gt _ _).mpr h2) c_2)
  refine lv_iconst (v := 0) S.1 S.2.1 dX9_in_17 (by decide) ?_
  exact b_zret S.1 S.2.1 X.2.1 X.2.2.1 rfl hP hD hS ⟨rfl, rfl⟩ dX9_in_18
theorem c_X9_in_f (l : Launch) (D : va_G) (cI cZ cC cS : ClassId) (sq sz : Nat) (v : Int64) (lo : Int64) (hi : Int64) (hf : ¬ v < lo → hi < v) : mI l yX9_in wsX9_in 0 0 D (tyW cI cZ cC cS) sq [] sz [.long v, .long lo, .long hi] (fun r w => r = 0 ∧ w = []) := by
  by_cases h : v < lo
  · exact c_X9_in_f1 l D cI cZ cC cS sq sz v lo hi h
  · exact c_X9_in_f2 l D cI cZ cC cS sq sz v lo hi h (hf h)
set_option maxHeartbeats 4000000 in
set_option maxRecDepth 100000 in
theorem c_X9_isSheet_t (l : Launch) (D : va_G) (cI cZ cC cS : ClassId) (sq sz : Nat) (a : Int32) (hr : 0 ≤ a.toInt ∧ a.toInt ≤ 7) : mI l yX9_isSheet wsX9_isSheet 1 25 D (tyW cI cZ cC cS) sq [] sz [.int a] (fun r w => r = 1 ∧ w = []) := by
  refine b_metI (cc := cX9_isSheet) (maxL := 1) (ret := (some .boolean)) (by decide) rfl (Nat.le_of_ble_eq_true rfl) ?_
  intro p e s m below meth c ls A H X hsz hP hK hD hA hS hl
  have S : CallFix p m c cX9_isSheet 1 s ([.int a] : List Value).toArray wsX9_isSheet RX9 := X.1
  have hl : lv_has ls 1 [(0, .int a)] := hl
  refine lv_iload_n S.1 S.2.1 dX9_isSheet_0 rfl (lv_at hl 0 rfl) ?_
  refine lv_i2l (v := a.toInt64) S.1 S.2.1 dX9_isSheet_1 rfl ?_
  refine lv_lconst (v := 0) S.1 S.2.1 dX9_isSheet_2 (by decide) ?_
  refine lv_ldc2 (v := (7)) S.1 S.2.1 S.2.2.2.1 (S.2.2.2.2 (.constantLong RX9 61 (7)) (by decide +kernel)) dX9_isSheet_3 ?_
  refine b_ai (wr := []) (b_runS (As := [.long (a.toInt64), .long 0, .long 7]) (c_X9_in_t l D cI cZ cC cS sq H.size (a.toInt64) 0 7 (by rw [l_lt (N := 0) rfl]; omega) (by rw [l_gt (N := 7) rfl]; omega)) S gX9_isSheet_X9_in rfl hdS_X9_in ⟨Nat.le_of_ble_eq_true rfl, Nat.le_of_ble_eq_true rfl⟩ ⟨Nat.le_of_ble_eq_true rfl, Nat.le_of_ble_eq_true rfl⟩ hK hP hD [] rfl (by decide) rfl hl.1 rfl (Nat.le_of_ble_eq_true rfl) dX9_isSheet_6) hP hD hS hA [] [] rfl rfl (by decide) (by decide) (fun r_1 w_2 H locs hw_3 hP hD hS => ?_)
  obtain ⟨rfl, rfl⟩ := hw_3
  exact b_zret S.1 S.2.1 X.2.1 X.2.2.1 rfl hP hD hS ⟨rfl, rfl⟩ dX9_isSheet_9
set_option maxHeartbeats 4000000 in
set_option maxRecDepth 100000 in
theorem c_X9_isSheet_f (l : Launch) (D : va_G) (cI cZ cC cS : ClassId) (sq sz : Nat) (a : Int32) (hr : a.toInt < 0 ∨ 7 < a.toInt) : mI l yX9_isSheet wsX9_isSheet 1 25 D (tyW cI cZ cC cS) sq [] sz [.int a] (fun r w => r = 0 ∧ w = []) := by
  refine b_metI (cc := cX9_isSheet) (maxL := 1) (ret := (some .boolean)) (by decide) rfl (Nat.le_of_ble_eq_true rfl) ?_
  intro p e s m below meth c ls A H X hsz hP hK hD hA hS hl
  have S : CallFix p m c cX9_isSheet 1 s ([.int a] : List Value).toArray wsX9_isSheet RX9 := X.1
  have hl : lv_has ls 1 [(0, .int a)] := hl
  refine lv_iload_n S.1 S.2.1 dX9_isSheet_0 rfl (lv_at hl 0 rfl) ?_
  refine lv_i2l (v := a.toInt64) S.1 S.2.1 dX9_isSheet_1 rfl ?_
  refine lv_lconst (v := 0) S.1 S.2.1 dX9_isSheet_2 (by decide) ?_
  refine lv_ldc2 (v := (7)) S.1 S.2.1 S.2.2.2.1 (S.2.2.2.2 (.constantLong RX9 61 (7)) (by decide +kernel)) dX9_isSheet_3 ?_
  refine b_ai (wr := []) (b_runS (As := [.long (a.toInt64), .long 0, .long 7]) (c_X9_in_f l D cI cZ cC cS sq H.size (a.toInt64) 0 7 (fun z => by rw [l_lt (N := 0) rfl] at z; rw [l_gt (N := 7) rfl]; omega)) S gX9_isSheet_X9_in rfl hdS_X9_in ⟨Nat.le_of_ble_eq_true rfl, Nat.le_of_ble_eq_true rfl⟩ ⟨Nat.le_of_ble_eq_true rfl, Nat.le_of_ble_eq_true rfl⟩ hK hP hD [] rfl (by decide) rfl hl.1 rfl (Nat.le_of_ble_eq_true rfl) dX9_isSheet_6) hP hD hS hA [] [] rfl rfl (by decide) (by decide) (fun r_1 w_2 H locs hw_3 hP hD hS => ?_)
  obtain ⟨rfl, rfl⟩ := hw_3
  exact b_zret S.1 S.2.1 X.2.1 X.2.2.1 rfl hP hD hS ⟨rfl, rfl⟩ dX9_isSheet_9
set_option maxHeartbeats 4000000 in
set_option maxRecDepth 100000 in
theorem c_X9_finding_1 (l : Launch) (D : va_G) (cI cZ cC cS : ClassId) (sq sz : Nat) (y : Nat) (y_lane : Nat) (y_many : Nat) (y_item : Nat) (y_city : Nat) (y_fresh : Nat) (y_tape : Nat) (y_cost : Nat) (y_away : Nat) (y_fee : Nat) (y_goesTo : Nat) (y_priceWas : Nat) (y_isKept : Nat) (y_kept : Nat) (y_trace : Nat) : mI l yX9_finding wsX9_finding 0 0 D (tyW cI cZ cC cS) sq [(y, .inr (9, [.int 0, .int 0, .ref y_lane, .ref y_many, .ref y_item, .ref y_city, .ref y_fresh, .int 0, .ref y_tape, .int 0, .int 0, .int 0, .int 0, .int 0, .int 0, .int 0, .int 0, .int 0, .int 0, .int 0, .ref y_cost, .ref y_away, .ref y_fee, .ref y_goesTo, .ref y_priceWas, .ref y_isKept, .ref y_kept, .ref y_trace, .int 0]))] sz [.ref y, .int 1] (fun r w => r = -1000011 ∧ w = [(y, .inr (9, [.int 0, .int 1, .ref y_lane, .ref y_many, .ref y_item, .ref y_city, .ref y_fresh, .int 0, .ref y_tape, .int 0, .int 0, .int 0, .int 0, .int 0, .int 0, .int 0, .int 0, .int 0, .int 0, .int 0, .ref y_cost, .ref y_away, .ref y_fee, .ref y_goesTo, .ref y_priceWas, .ref y_isKept, .ref y_kept, .ref y_trace, .int 0]))]) := by
  refine b_metI (cc := cX9_finding) (maxL := 2) (ret := (some .int)) (by decide) rfl (Nat.le_of_ble_eq_true rfl) ?_
  intro p e s m below meth c ls A H X hsz hP hK hD hA hS hl
  have S : CallFix p m c cX9_finding 2 s ([.ref y, .int 1] : List Value).toArray wsX9_finding RX9 := X.1
  have hl : lv_has ls 2 [(0, .ref y), (1, .int 1)] := hl
  have iX9 := jX9_finding_X9
  refine lv_aload_n S.1 S.2.1 dX9_finding_0 rfl (lv_at hl 0 rfl) ?_
  refine lv_iload_n S.1 S.2.1 dX9_finding_1 rfl (lv_at hl 1 rfl) ?_
  refine b_put (v := .int 1) S iX9 tyX9 tyX9_ok nmX9 hK hP hD hS 0 rfl rfl 1 (by decide) (by decide +kernel) rfl rfl rfl (Nat.le_of_ble_eq_true rfl) dX9_finding_2 (fun H locs hP hD hS => ?_)
  have hP : va_P D vwCl [(y, .inr (9, [.int 0, .int 1, .ref y_lane, .ref y_many, .ref y_item, .ref y_city, .ref y_fresh, .int 0, .ref y_tape, .int 0, .int 0, .int 0, .int 0, .int 0, .int 0, .int 0, .int 0, .int 0, .int 0, .int 0, .ref y_cost, .ref y_away, .ref y_fee, .ref y_goesTo, .ref y_priceWas, .ref y_isKept, .ref y_kept, .ref y_trace, .int 0]))] H := hP
  have hD : va_D A [(y, .inr (9, [.int 0, .int 1, .ref y_lane, .ref y_many, .ref y_item, .ref y_city, .ref y_fresh, .int 0, .ref y_tape, .int 0, .int 0, .int 0, .int 0, .int 0, .int 0, .int 0, .int 0, .int 0, .int 0, .int 0, .ref y_cost, .ref y_away, .ref y_fee, .ref y_goesTo, .ref y_priceWas, .ref y_isKept, .ref y_kept, .ref y_trace, .int 0]))] := hD
  refine lv_ldc (v := (-1000010)) S.1 S.2.1 S.2.2.2.1 (S.2.2.2.2 (.constant RX9 60 (-1000010)) (by decide +kernel)) dX9_finding_5 ?_
  refine lv_iload_n S.1 S.2.1 dX9_finding_7 rfl (lv_at hl 1 rfl) ?_
  refine lv_isub S.1 S.2.1 dX9_finding_8 ?_
  refine lv_topi (fun x_1 ex_1 => ?_)
  have ex_1 : x_1 = -1000011 := by rw [ex_1]; decide
  subst ex_1
  exact b_iret S.1 S.2.1 X.2.1 X.2.2.1 hP hD hS ⟨rfl, rfl⟩ dX9_finding_9
set_option maxHeartbeats 4000000 in
set_option maxRecDepth 100000 in
theorem c_X9_finding_4 (l : Launch) (D : va_G) (cI cZ cC cS : ClassId) (sq sz : Nat) (y : Nat) (y_lane : Nat) (y_many : Nat) (y_item : Nat) (y_city : Nat) (y_fresh : Nat) (y_tape : Nat) (y_cost : Nat) (y_away : Nat) (y_fee : Nat) (y_goesTo : Nat) (y_priceWas : Nat) (y_isKept : Nat) (y_kept : Nat) (y_trace : Nat) : mI l yX9_finding wsX9_finding 0 0 D (tyW cI cZ cC cS) sq [(y, .inr (9, [.int 0, .int 0, .ref y_lane, .ref y_many, .ref y_item, .ref y_city, .ref y_fresh, .int 0, .ref y_tape, .int 0, .int 0, .int 0, .int 0, .int 0, .int 0, .int 0, .int 0, .int 0, .int 0, .int 0, .ref y_cost, .ref y_away, .ref y_fee, .ref y_goesTo, .ref y_priceWas, .ref y_isKept, .ref y_kept, .ref y_trace, .int 0]))] sz [.ref y, .int 4] (fun r w => r = -1000014 ∧ w = [(y, .inr (9, [.int 0, .int 4, .ref y_lane, .ref y_many, .ref y_item, .ref y_city, .ref y_fresh, .int 0, .ref y_tape, .int 0, .int 0, .int 0, .int 0, .int 0, .int 0, .int 0, .int 0, .int 0, .int 0, .int 0, .ref y_cost, .ref y_away, .ref y_fee, .ref y_goesTo, .ref y_priceWas, .ref y_isKept, .ref y_kept, .ref y_trace, .int 0]))]) := by
  refine b_metI (cc := cX9_finding) (maxL := 2) (ret := (some .int)) (by decide) rfl (Nat.le_of_ble_eq_true rfl) ?_
  intro p e s m below meth c ls A H X hsz hP hK hD hA hS hl
  have S : CallFix p m c cX9_finding 2 s ([.ref y, .int 4] : List Value).toArray wsX9_finding RX9 := X.1
  have hl : lv_has ls 2 [(0, .ref y), (1, .int 4)] := hl
  have iX9 := jX9_finding_X9
  refine lv_aload_n S.1 S.2.1 dX9_finding_0 rfl (lv_at hl 0 rfl) ?_
  refine lv_iload_n S.1 S.2.1 dX9_finding_1 rfl (lv_at hl 1 rfl) ?_
  refine b_put (v := .int 4) S iX9 tyX9 tyX9_ok nmX9 hK hP hD hS 0 rfl rfl 1 (by decide) (by decide +kernel) rfl rfl rfl (Nat.le_of_ble_eq_true rfl) dX9_finding_2 (fun H locs hP hD hS => ?_)
  have hP : va_P D vwCl [(y, .inr (9, [.int 0, .int 4, .ref y_lane, .ref y_many, .ref y_item, .ref y_city, .ref y_fresh, .int 0, .ref y_tape, .int 0, .int 0, .int 0, .int 0, .int 0, .int 0, .int 0, .int 0, .int 0, .int 0, .int 0, .ref y_cost, .ref y_away, .ref y_fee, .ref y_goesTo, .ref y_priceWas, .ref y_isKept, .ref y_kept, .ref y_trace, .int 0]))] H := hP
  have hD : va_D A [(y, .inr (9, [.int 0, .int 4, .ref y_lane, .ref y_many, .ref y_item, .ref y_city, .ref y_fresh, .int 0, .ref y_tape, .int 0, .int 0, .int 0, .int 0, .int 0, .int 0, .int 0, .int 0, .int 0, .int 0, .int 0, .ref y_cost, .ref y_away, .ref y_fee, .ref y_goesTo, .ref y_priceWas, .ref y_isKept, .ref y_kept, .ref y_trace, .int 0]))] := hD
  refine lv_ldc (v := (-1000010)) S.1 S.2.1 S.2.2.2.1 (S.2.2.2.2 (.constant RX9 60 (-1000010)) (by decide +kernel)) dX9_finding_5 ?_
  refine lv_iload_n S.1 S.2.1 dX9_finding_7 rfl (lv_at hl 1 rfl) ?_
  refine lv_isub S.1 S.2.1 dX9_finding_8 ?_
  refine lv_topi (fun x_1 ex_1 => ?_)
  have ex_1 : x_1 = -1000014 := by rw [ex_1]; decide
  subst ex_1
  exact b_iret S.1 S.2.1 X.2.1 X.2.2.1 hP hD hS ⟨rfl, rfl⟩ dX9_finding_9
set_option maxHeartbeats 4000000 in
set_option maxRecDepth 100000 in
theorem c_X9_isIn (l : Launch) (D : va_G) (cI cZ cC cS : ClassId) (sq sz : Nat) (y : Nat) (y_lane : Nat) (y_many : Nat) (y_item : Nat) (y_city : Nat) (y_fresh : Nat) (y_tape : Nat) (y_cost : Nat) (y_away : Nat) (y_fee : Nat) (y_goesTo : Nat) (y_priceWas : Nat) (y_isKept : Nat) (y_kept : Nat) (y_trace : Nat) (a : Int32) (b : Int32) : mI l yX9_isIn wsX9_isIn 1 25 D (tyW cI cZ cC cS) sq [(y, .inr (9, [.int 0, .int 0, .ref y_lane, .ref y_many, .ref y_item, .ref y_city, .ref y_fresh, .int 0, .ref y_tape, .int 0, .int 0, .int 0, .int 0, .int 0, .int 0, .int 0, .int 0, .int 0, .int 0, .int 0, .ref y_cost, .ref y_away, .ref y_fee, .ref y_goesTo, .ref y_priceWas, .ref y_isKept, .ref y_kept, .ref y_trace, .int 0])), (y_city, .inl (cI, 192, .inl (fun _ => 0)))] sz [.ref y, .int a, .int b] (fun r w => r = 0 ∧ w = [(y, .inr (9, [.int 0, .int 0, .ref y_lane, .ref y_many, .ref y_item, .ref y_city, .ref y_fresh, .int 0, .ref y_tape, .int 0, .int 0, .int 0, .int 0, .int 0, .int 0, .int 0, .int 0, .int 0, .int 0, .int 0, .ref y_cost, .ref y_away, .ref y_fee, .ref y_goesTo, .ref y_priceWas, .ref y_isKept, .ref y_kept, .ref y_trace, .int 0])), (y_city, .inl (cI, 192, .inl (fun _ => 0)))]) := by
  refine b_metI (cc := cX9_isIn) (maxL := 3) (ret := (some .boolean)) (by decide) rfl (Nat.le_of_ble_eq_true rfl) ?_
  intro p e s m below meth c ls A H X hsz hP hK hD hA hS hl
  have S : CallFix p m c cX9_isIn 3 s ([.ref y, .int a, .int b] : List Value).toArray wsX9_isIn RX9 := X.1
  have hl : lv_has ls 3 [(0, .ref y), (1, .int a), (2, .int b)] := hl
  have iX9 := jX9_isIn_X9
  refine lv_iload_n S.1 S.2.1 dX9_isIn_0 rfl (lv_at hl 1 rfl) ?_
  refine lv_i2l (v := a.toInt64) S.1 S.2.1 dX9_isIn_1 rfl ?_
  refine lv_lconst (v := 0) S.1 S.2.1 dX9_isIn_2 (by decide) ?_
  refine lv_aload_n S.1 S.2.1 dX9_isIn_3 rfl (lv_at hl 0 rfl) ?_
  refine b_get (v := .ref y_city) S iX9 hK hP 0 rfl rfl 5 (by decide) (by decide +kernel) rfl dX9_isIn_4 ?_
  refine lv_iconst (v := 0) S.1 S.2.1 dX9_isIn_7 (by decide) ?_
  refine va_iald S.1 S.2.1 hK.1 hP 1 0 rfl rfl (by unfold vp_in; decide) dX9_isIn_8 ?_
  refine lv_topi (fun x_1 ex_1 => ?_)
  have ex_1 : x_1 = 0 := by exact ex_1
  subst ex_1
  refine lv_iconst (v := 1) S.1 S.2.1 dX9_isIn_9 (by decide) ?_
  refine lv_isub S.1 S.2.1 dX9_isIn_10 ?_
  refine lv_topi (fun x_2 ex_2 => ?_)
  have ex_2 : x_2 = -1 := by rw [ex_2]; decide
  subst ex_2
  refine lv_i2l (v := (-1)) S.1 S.2.1 dX9_isIn_11 (by decide) ?_
  refine b_ai (wr := [(y, .inr (9, [.int 0, .int 0, .ref y_lane, .ref y_many, .ref y_item, .ref y_city, .ref y_fresh, .int 0, .ref y_tape, .int 0, .int 0, .int 0, .int 0, .int 0, .int 0, .int 0, .int 0, .int 0, .int 0, .int 0, .ref y_cost, .ref y_away, .ref y_fee, .ref y_goesTo, .ref y_priceWas, .ref y_isKept, .ref y_kept, .ref y_trace, .int 0])), (y_city, .inl (cI, 192, .inl (fun _ => 0)))]) (b_runS (As := [.long (a.toInt64), .long 0, .long (-1)]) (c_X9_in_f l D cI cZ cC cS sq H.size (a.toInt64) 0 (-1) (fun z => by rw [l_lt (N := 0) rfl] at z; rw [l_gt (N := -1) rfl]; omega)) S gX9_isIn_X9_in rfl hdS_X9_in ⟨Nat.le_of_ble_eq_true rfl, Nat.le_of_ble_eq_true rfl⟩ ⟨Nat.le_of_ble_eq_true rfl, Nat.le_of_ble_eq_true rfl⟩ hK hP hD [] rfl (by decide) rfl hl.1 rfl (Nat.le_of_ble_eq_true rfl) dX9_isIn_12) hP hD hS hA [] [0, 1] rfl rfl (by decide) (by decide) (fun r_3 w_4 H locs hw_5 hP hD hS => ?_)
  obtain ⟨rfl, rfl⟩ := hw_5
  have hP : va_P D vwCl [(y, .inr (9, [.int 0, .int 0, .ref y_lane, .ref y_many, .ref y_item, .ref y_city, .ref y_fresh, .int 0, .ref y_tape, .int 0, .int 0, .int 0, .int 0, .int 0, .int 0, .int 0, .int 0, .int 0, .int 0, .int 0, .ref y_cost, .ref y_away, .ref y_fee, .ref y_goesTo, .ref y_priceWas, .ref y_isKept, .ref y_kept, .ref y_trace, .int 0])), (y_city, .inl (cI, 192, .inl (fun _ => 0)))] H := hP
  have hD : va_D A [(y, .inr (9, [.int 0, .int 0, .ref y_lane, .ref y_many, .ref y_item, .ref y_city, .ref y_fresh, .int 0, .ref y_tape, .int 0, .int 0, .int 0, .int 0, .int 0, .int 0, .int 0, .int 0, .int 0, .int 0, .int 0, .ref y_cost, .ref y_away, .ref y_fee, .ref y_goesTo, .ref y_priceWas, .ref y_isKept, .ref y_kept, .ref y_trace, .int 0])), (y_city, .inl (cI, 192, .inl (fun _ => 0)))] := hD
  refine lv_if_eq (tgt := 40) S.1 S.2.1 dX9_isIn_15 (by decide) (fun c_6 => ?_) (fun c_6 => absurd c_6 (by decide))
  refine lv_iconst (v := 0) S.1 S.2.1 dX9_isIn_40 (by decide) ?_
  exact b_zret S.1 S.2.1 X.2.1 X.2.2.1 rfl hP hD hS ⟨rfl, rfl⟩ dX9_isIn_41
set_option maxHeartbeats 4000000 in
set_option maxRecDepth 100000 in
theorem c_X9_isCell_o (l : Launch) (D : va_G) (cI cZ cC cS : ClassId) (sq sz : Nat) (y : Nat) (y_lane : Nat) (y_many : Nat) (y_item : Nat) (y_city : Nat) (y_fresh : Nat) (y_tape : Nat) (y_cost : Nat) (y_away : Nat) (y_fee : Nat) (y_goesTo : Nat) (y_priceWas : Nat) (y_isKept : Nat) (y_kept : Nat) (y_trace : Nat) (k : Int32) (h : ¬ (0 ≤ k.toInt ∧ k.toInt ≤ 79)) : mI l yX9_isCell wsX9_isCell 2 60 D (tyW cI cZ cC cS) sq [(y, .inr (9, [.int 0, .int 0, .ref y_lane, .ref y_many, .ref y_item, .ref y_city, .ref y_fresh, .int 0, .ref y_tape, .int 0, .int 0, .int 0, .int 0, .int 0, .int 0, .int 0, .int 0, .int 0, .int 0, .int 0, .ref y_cost, .ref y_away, .ref y_fee, .ref y_goesTo, .ref y_priceWas, .ref y_isKept, .ref y_kept, .ref y_trace, .int 0])), (y_city, .inl (cI, 192, .inl (fun _ => 0)))] sz [.ref y, .int k] (fun r w => r = 0 ∧ w = [(y, .inr (9, [.int 0, .int 0, .ref y_lane, .ref y_many, .ref y_item, .ref y_city, .ref y_fresh, .int 0, .ref y_tape, .int 0, .int 0, .int 0, .int 0, .int 0, .int 0, .int 0, .int 0, .int 0, .int 0, .int 0, .ref y_cost, .ref y_away, .ref y_fee, .ref y_goesTo, .ref y_priceWas, .ref y_isKept, .ref y_kept, .ref y_trace, .int 0])), (y_city, .inl (cI, 192, .inl (fun _ => 0)))]) := by
  refine b_metI (cc := cX9_isCell) (maxL := 2) (ret := (some .boolean)) (by decide) rfl (Nat.le_of_ble_eq_true rfl) ?_
  intro p e s m below meth c ls A H X hsz hP hK hD hA hS hl
  have S : CallFix p m c cX9_isCell 2 s ([.ref y, .int k] : List Value).toArray wsX9_isCell RX9 := X.1
  have hl : lv_has ls 2 [(0, .ref y), (1, .int k)] := hl
  refine lv_iload_n S.1 S.2.1 dX9_isCell_0 rfl (lv_at hl 1 rfl) ?_
  refine lv_i2l (v := k.toInt64) S.1 S.2.1 dX9_isCell_1 rfl ?_
  refine lv_lconst (v := 0) S.1 S.2.1 dX9_isCell_2 (by decide) ?_
  refine lv_ldc2 (v := (79)) S.1 S.2.1 S.2.2.2.1 (S.2.2.2.2 (.constantLong RX9 189 (79)) (by decide +kernel)) dX9_isCell_3 ?_
  refine b_ai (wr := [(y, .inr (9, [.int 0, .int 0, .ref y_lane, .ref y_many, .ref y_item, .ref y_city, .ref y_fresh, .int 0, .ref y_tape, .int 0, .int 0, .int 0, .int 0, .int 0, .int 0, .int 0, .int 0, .int 0, .int 0, .int 0, .ref y_cost, .ref y_away, .ref y_fee, .ref y_goesTo, .ref y_priceWas, .ref y_isKept, .ref y_kept, .ref y_trace, .int 0])), (y_city, .inl (cI, 192, .inl (fun _ => 0)))]) (b_runS (As := [.long (k.toInt64), .long 0, .long 79]) (c_X9_in_f l D cI cZ cC cS sq H.size (k.toInt64) 0 79 (fun z => by rw [l_lt (N := 0) rfl] at z; rw [l_gt (N := 79) rfl]; omega)) S gX9_isCell_X9_in rfl hdS_X9_in ⟨Nat.le_of_ble_eq_true rfl, Nat.le_of_ble_eq_true rfl⟩ ⟨Nat.le_of_ble_eq_true rfl, Nat.le_of_ble_eq_true rfl⟩ hK hP hD [] rfl (by decide) rfl hl.1 rfl (Nat.le_of_ble_eq_true rfl) dX9_isCell_6) hP hD hS hA [] [0, 1] rfl rfl (by decide) (by decide) (fun r_1 w_2 H locs hw_3 hP hD hS => ?_)
  obtain ⟨rfl, rfl⟩ := hw_3
  have hP : va_P D vwCl [(y, .inr (9, [.int 0, .int 0, .ref y_lane, .ref y_many, .ref y_item, .ref y_city, .ref y_fresh, .int 0, .ref y_tape, .int 0, .int 0, .int 0, .int 0, .int 0, .int 0, .int 0, .int 0, .int 0, .int 0, .int 0, .ref y_cost, .ref y_away, .ref y_fee, .ref y_goesTo, .ref y_priceWas, .ref y_isKept, .ref y_kept, .ref y_trace, .int 0])), (y_city, .inl (cI, 192, .inl (fun _ => 0)))] H := hP
  have hD : va_D A [(y, .inr (9, [.int 0, .int 0, .ref y_lane, .ref y_many, .ref y_item, .ref y_city, .ref y_fresh, .int 0, .ref y_tape, .int 0, .int 0, .int 0, .int 0, .int 0, .int 0, .int 0, .int 0, .int 0, .int 0, .int 0, .ref y_cost, .ref y_away, .ref y_fee, .ref y_goesTo, .ref y_priceWas, .ref y_isKept, .ref y_kept, .ref y_trace, .int 0])), (y_city, .inl (cI, 192, .inl (fun _ => 0)))] := hD
  refine lv_if_eq (tgt := 31) S.1 S.2.1 dX9_isCell_9 (by decide) (fun c_4 => ?_) (fun c_4 => absurd c_4 (by decide))
  refine lv_iconst (v := 0) S.1 S.2.1 dX9_isCell_31 (by decide) ?_
  exact b_zret S.1 S.2.1 X.2.1 X.2.2.1 rfl hP hD hS ⟨rfl, rfl⟩ dX9_isCell_32
set_option maxHeartbeats 4000000 in
set_option maxRecDepth 100000 in
theorem c_X9_isCell_i (l : Launch) (D : va_G) (cI cZ cC cS : ClassId) (sq sz : Nat) (y : Nat) (y_lane : Nat) (y_many : Nat) (y_item : Nat) (y_city : Nat) (y_fresh : Nat) (y_tape : Nat) (y_cost : Nat) (y_away : Nat) (y_fee : Nat) (y_goesTo : Nat) (y_priceWas : Nat) (y_isKept : Nat) (y_kept : Nat) (y_trace : Nat) (k : Int32) (h : 0 ≤ k.toInt ∧ k.toInt ≤ 79) : mI l yX9_isCell wsX9_isCell 2 60 D (tyW cI cZ cC cS) sq [(y, .inr (9, [.int 0, .int 0, .ref y_lane, .ref y_many, .ref y_item, .ref y_city, .ref y_fresh, .int 0, .ref y_tape, .int 0, .int 0, .int 0, .int 0, .int 0, .int 0, .int 0, .int 0, .int 0, .int 0, .int 0, .ref y_cost, .ref y_away, .ref y_fee, .ref y_goesTo, .ref y_priceWas, .ref y_isKept, .ref y_kept, .ref y_trace, .int 0])), (y_city, .inl (cI, 192, .inl (fun _ => 0)))] sz [.ref y, .int k] (fun r w => r = 0 ∧ w = [(y, .inr (9, [.int 0, .int 0, .ref y_lane, .ref y_many, .ref y_item, .ref y_city, .ref y_fresh, .int 0, .ref y_tape, .int 0, .int 0, .int 0, .int 0, .int 0, .int 0, .int 0, .int 0, .int 0, .int 0, .int 0, .ref y_cost, .ref y_away, .ref y_fee, .ref y_goesTo, .ref y_priceWas, .ref y_isKept, .ref y_kept, .ref y_trace, .int 0])), (y_city, .inl (cI, 192, .inl (fun _ => 0)))]) := by
  refine b_metI (cc := cX9_isCell) (maxL := 2) (ret := (some .boolean)) (by decide) rfl (Nat.le_of_ble_eq_true rfl) ?_
  intro p e s m below meth c ls A H X hsz hP hK hD hA hS hl
  have S : CallFix p m c cX9_isCell 2 s ([.ref y, .int k] : List Value).toArray wsX9_isCell RX9 := X.1
  have hl : lv_has ls 2 [(0, .ref y), (1, .int k)] := hl
  refine lv_iload_n S.1 S.2.1 dX9_isCell_0 rfl (lv_at hl 1 rfl) ?_
  refine lv_i2l (v := k.toInt64) S.1 S.2.1 dX9_isCell_1 rfl ?_
  refine lv_lconst (v := 0) S.1 S.2.1 dX9_isCell_2 (by decide) ?_
  refine lv_ldc2 (v := (79)) S.1 S.2.1 S.2.2.2.1 (S.2.2.2.2 (.constantLong RX9 189 (79)) (by decide +kernel)) dX9_isCell_3 ?_
  refine b_ai (wr := [(y, .inr (9, [.int 0, .int 0, .ref y_lane, .ref y_many, .ref y_item, .ref y_city, .ref y_fresh, .int 0, .ref y_tape, .int 0, .int 0, .int 0, .int 0, .int 0, .int 0, .int 0, .int 0, .int 0, .int 0, .int 0, .ref y_cost, .ref y_away, .ref y_fee, .ref y_goesTo, .ref y_priceWas, .ref y_isKept, .ref y_kept, .ref y_trace, .int 0])), (y_city, .inl (cI, 192, .inl (fun _ => 0)))]) (b_runS (As := [.long (k.toInt64), .long 0, .long 79]) (c_X9_in_t l D cI cZ cC cS sq H.size (k.toInt64) 0 79 (by rw [l_lt (N := 0) rfl]; omega) (by rw [l_gt (N := 79) rfl]; omega)) S gX9_isCell_X9_in rfl hdS_X9_in ⟨Nat.le_of_ble_eq_true rfl, Nat.le_of_ble_eq_true rfl⟩ ⟨Nat.le_of_ble_eq_true rfl, Nat.le_of_ble_eq_true rfl⟩ hK hP hD [] rfl (by decide) rfl hl.1 rfl (Nat.le_of_ble_eq_true rfl) dX9_isCell_6) hP hD hS hA [] [0, 1] rfl rfl (by decide) (by decide) (fun r_1 w_2 H locs hw_3 hP hD hS => ?_)
  obtain ⟨rfl, rfl⟩ := hw_3
  have hP : va_P D vwCl [(y, .inr (9, [.int 0, .int 0, .ref y_lane, .ref y_many, .ref y_item, .ref y_city, .ref y_fresh, .int 0, .ref y_tape, .int 0, .int 0, .int 0, .int 0, .int 0, .int 0, .int 0, .int 0, .int 0, .int 0, .int 0, .ref y_cost, .ref y_away, .ref y_fee, .ref y_goesTo, .ref y_priceWas, .ref y_isKept, .ref y_kept, .ref y_trace, .int 0])), (y_city, .inl (cI, 192, .inl (fun _ => 0)))] H := hP
  have hD : va_D A [(y, .inr (9, [.int 0, .int 0, .ref y_lane, .ref y_many, .ref y_item, .ref y_city, .ref y_fresh, .int 0, .ref y_tape, .int 0, .int 0, .int 0, .int 0, .int 0, .int 0, .int 0, .int 0, .int 0, .int 0, .int 0, .ref y_cost, .ref y_away, .ref y_fee, .ref y_goesTo, .ref y_priceWas, .ref y_isKept, .ref y_kept, .ref y_trace, .int 0])), (y_city, .inl (cI, 192, .inl (fun _ => 0)))] := hD
  refine lv_if_eq (tgt := 31) S.1 S.2.1 dX9_isCell_9 (by decide) (fun c_4 => absurd c_4 (by decide)) (fun c_4 => ?_)
  refine lv_aload_n S.1 S.2.1 dX9_isCell_12 rfl (lv_at hl 0 rfl) ?_
  refine lv_iload_n S.1 S.2.1 dX9_isCell_13 rfl (lv_at hl 1 rfl) ?_
  refine lv_bipush (v := 10) S.1 S.2.1 dX9_isCell_14 (by decide) ?_
  refine lv_irem S.1 S.2.1 dX9_isCell_16 (by decide) ?_
  refine lv_topi (fun x_5 ex_5 => ?_)
  refine lv_iload_n S.1 S.2.1 dX9_isCell_17 rfl (lv_at hl 1 rfl) ?_
  refine lv_bipush (v := 10) S.1 S.2.1 dX9_isCell_18 (by decide) ?_
  refine lv_idiv S.1 S.2.1 dX9_isCell_20 (by decide) ?_
  refine lv_topi (fun x_6 ex_6 => ?_)
  refine b_ai (wr := []) (b_runV (q0 := 0) (ci := 9) (As := [.int x_5, .int x_6]) (c_X9_isIn l D cI cZ cC cS sq H.size y y_lane y_many y_item y_city y_fresh y_tape y_cost y_away y_fee y_goesTo y_priceWas y_isKept y_kept y_trace x_5 x_6) S gX9_isCell_X9_isIn rfl hdV_X9_isIn ⟨Nat.le_of_ble_eq_true rfl, Nat.le_of_ble_eq_true rfl⟩ ⟨Nat.le_of_ble_eq_true rfl, Nat.le_of_ble_eq_true rfl⟩ hK hP hD rfl rfl [0, 1] rfl (by decide) rfl hl.1 rfl (Nat.le_of_ble_eq_true rfl) dX9_isCell_21) hP hD hS hA [0, 1] [] rfl rfl (by decide) (by decide) (fun r_7 w_8 H locs hw_9 hP hD hS => ?_)
  obtain ⟨rfl, rfl⟩ := hw_9
  have hP : va_P D vwCl [(y, .inr (9, [.int 0, .int 0, .ref y_lane, .ref y_many, .ref y_item, .ref y_city, .ref y_fresh, .int 0, .ref y_tape, .int 0, .int 0, .int 0, .int 0, .int 0, .int 0, .int 0, .int 0, .int 0, .int 0, .int 0, .ref y_cost, .ref y_away, .ref y_fee, .ref y_goesTo, .ref y_priceWas, .ref y_isKept, .ref y_kept, .ref y_trace, .int 0])), (y_city, .inl (cI, 192, .inl (fun _ => 0)))] H := hP
  have hD : va_D A [(y, .inr (9, [.int 0, .int 0, .ref y_lane, .ref y_many, .ref y_item, .ref y_city, .ref y_fresh, .int 0, .ref y_tape, .int 0, .int 0, .int 0, .int 0, .int 0, .int 0, .int 0, .int 0, .int 0, .int 0, .int 0, .ref y_cost, .ref y_away, .ref y_fee, .ref y_goesTo, .ref y_priceWas, .ref y_isKept, .ref y_kept, .ref y_trace, .int 0])), (y_city, .inl (cI, 192, .inl (fun _ => 0)))] := hD
  refine lv_if_eq (tgt := 31) S.1 S.2.1 dX9_isCell_24 (by decide) (fun c_10 => ?_) (fun c_10 => absurd c_10 (by decide))
  refine lv_iconst (v := 0) S.1 S.2.1 dX9_isCell_31 (by decide) ?_
  exact b_zret S.1 S.2.1 X.2.1 X.2.2.1 rfl hP hD hS ⟨rfl, rfl⟩ dX9_isCell_32
theorem c_X9_isCell (l : Launch) (D : va_G) (cI cZ cC cS : ClassId) (sq sz : Nat) (y : Nat) (y_lane : Nat) (y_many : Nat) (y_item : Nat) (y_city : Nat) (y_fresh : Nat) (y_tape : Nat) (y_cost : Nat) (y_away : Nat) (y_fee : Nat) (y_goesTo : Nat) (y_priceWas : Nat) (y_isKept : Nat) (y_kept : Nat) (y_trace : Nat) (k : Int32) : mI l yX9_isCell wsX9_isCell 2 60 D (tyW cI cZ cC cS) sq [(y, .inr (9, [.int 0, .int 0, .ref y_lane, .ref y_many, .ref y_item, .ref y_city, .ref y_fresh, .int 0, .ref y_tape, .int 0, .int 0, .int 0, .int 0, .int 0, .int 0, .int 0, .int 0, .int 0, .int 0, .int 0, .ref y_cost, .ref y_away, .ref y_fee, .ref y_goesTo, .ref y_priceWas, .ref y_isKept, .ref y_kept, .ref y_trace, .int 0])), (y_city, .inl (cI, 192, .inl (fun _ => 0)))] sz [.ref y, .int k] (fun r w => r = 0 ∧ w = [(y, .inr (9, [.int 0, .int 0, .ref y_lane, .ref y_many, .ref y_item, .ref y_city, .ref y_fresh, .int 0, .ref y_tape, .int 0, .int 0, .int 0, .int 0, .int 0, .int 0, .int 0, .int 0, .int 0, .int 0, .int 0, .ref y_cost, .ref y_away, .ref y_fee, .ref y_goesTo, .ref y_priceWas, .ref y_isKept, .ref y_kept, .ref y_trace, .int 0])), (y_city, .inl (cI, 192, .inl (fun _ => 0)))]) := by
  by_cases h : 0 ≤ k.toInt ∧ k.toInt ≤ 79
  · exact c_X9_isCell_i l D cI cZ cC cS sq sz y y_lane y_many y_item y_city y_fresh y_tape y_cost y_away y_fee y_goesTo y_priceWas y_isKept y_kept y_trace k h
  · exact c_X9_isCell_o l D cI cZ cC cS sq sz y y_lane y_many y_item y_city y_fresh y_tape y_cost y_away y_fee y_goesTo y_priceWas y_isKept y_kept y_trace k h
set_option maxHeartbeats 4000000 in
set_option maxRecDepth 100000 in
theorem c_X9_isOpen (l : Launch) (D : va_G) (cI cZ cC cS : ClassId) (sq sz : Nat) (y : Nat) (y_lane : Nat) (y_many : Nat) (y_item : Nat) (y_city : Nat) (y_fresh : Nat) (y_tape : Nat) (y_cost : Nat) (y_away : Nat) (y_fee : Nat) (y_goesTo : Nat) (y_priceWas : Nat) (y_isKept : Nat) (y_kept : Nat) (y_trace : Nat) (k : Int32) : mI l yX9_isOpen wsX9_isOpen 3 81 D (tyW cI cZ cC cS) sq [(y, .inr (9, [.int 0, .int 0, .ref y_lane, .ref y_many, .ref y_item, .ref y_city, .ref y_fresh, .int 0, .ref y_tape, .int 0, .int 0, .int 0, .int 0, .int 0, .int 0, .int 0, .int 0, .int 0, .int 0, .int 0, .ref y_cost, .ref y_away, .ref y_fee, .ref y_goesTo, .ref y_priceWas, .ref y_isKept, .ref y_kept, .ref y_trace, .int 0])), (y_city, .inl (cI, 192, .inl (fun _ => 0)))] sz [.ref y, .int k] (fun r w => r = 0 ∧ w = [(y, .inr (9, [.int 0, .int 0, .ref y_lane, .ref y_many, .ref y_item, .ref y_city, .ref y_fresh, .int 0, .ref y_tape, .int 0, .int 0, .int 0, .int 0, .int 0, .int 0, .int 0, .int 0, .int 0, .int 0, .int 0, .ref y_cost, .ref y_away, .ref y_fee, .ref y_goesTo, .ref y_priceWas, .ref y_isKept, .ref y_kept, .ref y_trace, .int 0])), (y_city, .inl (cI, 192, .inl (fun _ => 0)))]) := by
  refine b_metI (cc := cX9_isOpen) (maxL := 2) (ret := (some .boolean)) (by decide) rfl (Nat.le_of_ble_eq_true rfl) ?_
  intro p e s m below meth c ls A H X hsz hP hK hD hA hS hl
  have S : CallFix p m c cX9_isOpen 2 s ([.ref y, .int k] : List Value).toArray wsX9_isOpen RX9 := X.1
  have hl : lv_has ls 2 [(0, .ref y), (1, .int k)] := hl
  refine lv_aload_n S.1 S.2.1 dX9_isOpen_0 rfl (lv_at hl 0 rfl) ?_
  refine lv_iload_n S.1 S.2.1 dX9_isOpen_1 rfl (lv_at hl 1 rfl) ?_
  refine b_ai (wr := []) (b_runV (q0 := 0) (ci := 9) (As := [.int k]) (c_X9_isCell l D cI cZ cC cS sq H.size y y_lane y_many y_item y_city y_fresh y_tape y_cost y_away y_fee y_goesTo y_priceWas y_isKept y_kept y_trace k) S gX9_isOpen_X9_isCell rfl hdV_X9_isCell ⟨Nat.le_of_ble_eq_true rfl, Nat.le_of_ble_eq_true rfl⟩ ⟨Nat.le_of_ble_eq_true rfl, Nat.le_of_ble_eq_true rfl⟩ hK hP hD rfl rfl [0, 1] rfl (by decide) rfl hl.1 rfl (Nat.le_of_ble_eq_true rfl) dX9_isOpen_2) hP hD hS hA [0, 1] [] rfl rfl (by decide) (by decide) (fun r_1 w_2 H locs hw_3 hP hD hS => ?_)
  obtain ⟨rfl, rfl⟩ := hw_3
  have hP : va_P D vwCl [(y, .inr (9, [.int 0, .int 0, .ref y_lane, .ref y_many, .ref y_item, .ref y_city, .ref y_fresh, .int 0, .ref y_tape, .int 0, .int 0, .int 0, .int 0, .int 0, .int 0, .int 0, .int 0, .int 0, .int 0, .int 0, .ref y_cost, .ref y_away, .ref y_fee, .ref y_goesTo, .ref y_priceWas, .ref y_isKept, .ref y_kept, .ref y_trace, .int 0])), (y_city, .inl (cI, 192, .inl (fun _ => 0)))] H := hP
  have hD : va_D A [(y, .inr (9, [.int 0, .int 0, .ref y_lane, .ref y_many, .ref y_item, .ref y_city, .ref y_fresh, .int 0, .ref y_tape, .int 0, .int 0, .int 0, .int 0, .int 0, .int 0, .int 0, .int 0, .int 0, .int 0, .int 0, .ref y_cost, .ref y_away, .ref y_fee, .ref y_goesTo, .ref y_priceWas, .ref y_isKept, .ref y_kept, .ref y_trace, .int 0])), (y_city, .inl (cI, 192, .inl (fun _ => 0)))] := hD
  refine lv_if_eq (tgt := 25) S.1 S.2.1 dX9_isOpen_5 (by decide) (fun c_4 => ?_) (fun c_4 => absurd c_4 (by decide))
  refine lv_iconst (v := 0) S.1 S.2.1 dX9_isOpen_25 (by decide) ?_
  exact b_zret S.1 S.2.1 X.2.1 X.2.2.1 rfl hP hD hS ⟨rfl, rfl⟩ dX9_isOpen_26
set_option maxHeartbeats 4000000 in
set_option maxRecDepth 100000 in
theorem c_X9_isOne (l : Launch) (D : va_G) (cI cZ cC cS : ClassId) (sq sz : Nat) (y : Nat) (y_lane : Nat) (y_many : Nat) (y_item : Nat) (y_city : Nat) (y_fresh : Nat) (y_tape : Nat) (y_cost : Nat) (y_away : Nat) (y_fee : Nat) (y_goesTo : Nat) (y_priceWas : Nat) (y_isKept : Nat) (y_kept : Nat) (y_trace : Nat) (a : Int32) : mI l yX9_isOne wsX9_isOne 1 25 D (tyW cI cZ cC cS) sq [(y, .inr (9, [.int 0, .int 0, .ref y_lane, .ref y_many, .ref y_item, .ref y_city, .ref y_fresh, .int 0, .ref y_tape, .int 0, .int 0, .int 0, .int 0, .int 0, .int 0, .int 0, .int 0, .int 0, .int 0, .int 0, .ref y_cost, .ref y_away, .ref y_fee, .ref y_goesTo, .ref y_priceWas, .ref y_isKept, .ref y_kept, .ref y_trace, .int 0])), (y_city, .inl (cI, 192, .inl (fun _ => 0)))] sz [.ref y, .int a] (fun r w => r = 0 ∧ w = [(y, .inr (9, [.int 0, .int 0, .ref y_lane, .ref y_many, .ref y_item, .ref y_city, .ref y_fresh, .int 0, .ref y_tape, .int 0, .int 0, .int 0, .int 0, .int 0, .int 0, .int 0, .int 0, .int 0, .int 0, .int 0, .ref y_cost, .ref y_away, .ref y_fee, .ref y_goesTo, .ref y_priceWas, .ref y_isKept, .ref y_kept, .ref y_trace, .int 0])), (y_city, .inl (cI, 192, .inl (fun _ => 0)))]) := by
  refine b_metI (cc := cX9_isOne) (maxL := 2) (ret := (some .boolean)) (by decide) rfl (Nat.le_of_ble_eq_true rfl) ?_
  intro p e s m below meth c ls A H X hsz hP hK hD hA hS hl
  have S : CallFix p m c cX9_isOne 2 s ([.ref y, .int a] : List Value).toArray wsX9_isOne RX9 := X.1
  have hl : lv_has ls 2 [(0, .ref y), (1, .int a)] := hl
  have iX9 := jX9_isOne_X9
  refine lv_iload_n S.1 S.2.1 dX9_isOne_0 rfl (lv_at hl 1 rfl) ?_
  refine lv_i2l (v := a.toInt64) S.1 S.2.1 dX9_isOne_1 rfl ?_
  refine lv_lconst (v := 0) S.1 S.2.1 dX9_isOne_2 (by decide) ?_
  refine lv_aload_n S.1 S.2.1 dX9_isOne_3 rfl (lv_at hl 0 rfl) ?_
  refine b_get (v := .ref y_city) S iX9 hK hP 0 rfl rfl 5 (by decide) (by decide +kernel) rfl dX9_isOne_4 ?_
  refine lv_iconst (v := 3) S.1 S.2.1 dX9_isOne_7 (by decide) ?_
  refine va_iald S.1 S.2.1 hK.1 hP 1 0 rfl rfl (by unfold vp_in; decide) dX9_isOne_8 ?_
  refine lv_topi (fun x_1 ex_1 => ?_)
  have ex_1 : x_1 = 0 := by exact ex_1
  subst ex_1
  refine lv_iconst (v := 1) S.1 S.2.1 dX9_isOne_9 (by decide) ?_
  refine lv_isub S.1 S.2.1 dX9_isOne_10 ?_
  refine lv_topi (fun x_2 ex_2 => ?_)
  have ex_2 : x_2 = -1 := by rw [ex_2]; decide
  subst ex_2
  refine lv_i2l (v := (-1)) S.1 S.2.1 dX9_isOne_11 (by decide) ?_
  refine b_ai (wr := [(y, .inr (9, [.int 0, .int 0, .ref y_lane, .ref y_many, .ref y_item, .ref y_city, .ref y_fresh, .int 0, .ref y_tape, .int 0, .int 0, .int 0, .int 0, .int 0, .int 0, .int 0, .int 0, .int 0, .int 0, .int 0, .ref y_cost, .ref y_away, .ref y_fee, .ref y_goesTo, .ref y_priceWas, .ref y_isKept, .ref y_kept, .ref y_trace, .int 0])), (y_city, .inl (cI, 192, .inl (fun _ => 0)))]) (b_runS (As := [.long (a.toInt64), .long 0, .long (-1)]) (c_X9_in_f l D cI cZ cC cS sq H.size (a.toInt64) 0 (-1) (fun z => by rw [l_lt (N := 0) rfl] at z; rw [l_gt (N := -1) rfl]; omega)) S gX9_isOne_X9_in rfl hdS_X9_in ⟨Nat.le_of_ble_eq_true rfl, Nat.le_of_ble_eq_true rfl⟩ ⟨Nat.le_of_ble_eq_true rfl, Nat.le_of_ble_eq_true rfl⟩ hK hP hD [] rfl (by decide) rfl hl.1 rfl (Nat.le_of_ble_eq_true rfl) dX9_isOne_12) hP hD hS hA [] [0, 1] rfl rfl (by decide) (by decide) (fun r_3 w_4 H locs hw_5 hP hD hS => ?_)
  obtain ⟨rfl, rfl⟩ := hw_5
  have hP : va_P D vwCl [(y, .inr (9, [.int 0, .int 0, .ref y_lane, .ref y_many, .ref y_item, .ref y_city, .ref y_fresh, .int 0, .ref y_tape, .int 0, .int 0, .int 0, .int 0, .int 0, .int 0, .int 0, .int 0, .int 0, .int 0, .int 0, .ref y_cost, .ref y_away, .ref y_fee, .ref y_goesTo, .ref y_priceWas, .ref y_isKept, .ref y_kept, .ref y_trace, .int 0])), (y_city, .inl (cI, 192, .inl (fun _ => 0)))] H := hP
  have hD : va_D A [(y, .inr (9, [.int 0, .int 0, .ref y_lane, .ref y_many, .ref y_item, .ref y_city, .ref y_fresh, .int 0, .ref y_tape, .int 0, .int 0, .int 0, .int 0, .int 0, .int 0, .int 0, .int 0, .int 0, .int 0, .int 0, .ref y_cost, .ref y_away, .ref y_fee, .ref y_goesTo, .ref y_priceWas, .ref y_isKept, .ref y_kept, .ref y_trace, .int 0])), (y_city, .inl (cI, 192, .inl (fun _ => 0)))] := hD
  exact b_zret S.1 S.2.1 X.2.1 X.2.2.1 rfl hP hD hS ⟨rfl, rfl⟩ dX9_isOne_15
set_option maxHeartbeats 4000000 in
set_option maxRecDepth 100000 in
theorem c_X9_byteAt (l : Launch) (D : va_G) (cI cZ cC cS : ClassId) (sq sz : Nat) (y : Nat) (y_lane : Nat) (y_many : Nat) (y_item : Nat) (y_city : Nat) (y_fresh : Nat) (y_tape : Nat) (y_cost : Nat) (y_away : Nat) (y_fee : Nat) (y_goesTo : Nat) (y_priceWas : Nat) (y_isKept : Nat) (y_kept : Nat) (y_trace : Nat) : mI l yX9_byteAt wsX9_byteAt 0 0 D (tyW cI cZ cC cS) sq [(y, .inr (9, [.int 0, .int 0, .ref y_lane, .ref y_many, .ref y_item, .ref y_city, .ref y_fresh, .int 0, .ref y_tape, .int 0, .int 0, .int 0, .int 0, .int 0, .int 0, .int 0, .int 0, .int 0, .int 0, .int 0, .ref y_cost, .ref y_away, .ref y_fee, .ref y_goesTo, .ref y_priceWas, .ref y_isKept, .ref y_kept, .ref y_trace, .int 0]))] sz [.ref y, .int 0] (fun r w => r = -1000000 ∧ w = [(y, .inr (9, [.int 0, .int 0, .ref y_lane, .ref y_many, .ref y_item, .ref y_city, .ref y_fresh, .int 0, .ref y_tape, .int 0, .int 0, .int 0, .int 0, .int 0, .int 0, .int 0, .int 0, .int 0, .int 0, .int 0, .ref y_cost, .ref y_away, .ref y_fee, .ref y_goesTo, .ref y_priceWas, .ref y_isKept, .ref y_kept, .ref y_trace, .int 0]))]) := by
  refine b_metI (cc := cX9_byteAt) (maxL := 2) (ret := (some .int)) (by decide) rfl (Nat.le_of_ble_eq_true rfl) ?_
  intro p e s m below meth c ls A H X hsz hP hK hD hA hS hl
  have S : CallFix p m c cX9_byteAt 2 s ([.ref y, .int 0] : List Value).toArray wsX9_byteAt RX9 := X.1
  have hl : lv_has ls 2 [(0, .ref y), (1, .int 0)] := hl
  have iX9 := jX9_byteAt_X9
  refine lv_iload_n S.1 S.2.1 dX9_byteAt_0 rfl (lv_at hl 1 rfl) ?_
  refine lv_aload_n S.1 S.2.1 dX9_byteAt_1 rfl (lv_at hl 0 rfl) ?_
  refine b_get (v := .int 0) S iX9 hK hP 0 rfl rfl 11 (by decide) (by decide +kernel) rfl dX9_byteAt_2 ?_
  refine lv_icmp_ge (tgt := 17) S.1 S.2.1 dX9_byteAt_5 (by decide) (fun c_1 => ?_) (fun c_1 => absurd c_1 (by decide))
  refine lv_ldc (v := (-1000000)) S.1 S.2.1 S.2.2.2.1 (S.2.2.2.2 (.constant RX9 89 (-1000000)) (by decide +kernel)) dX9_byteAt_17 ?_
  exact b_iret S.1 S.2.1 X.2.1 X.2.2.1 hP hD hS ⟨rfl, rfl⟩ dX9_byteAt_19
set_option maxHeartbeats 4000000 in
set_option maxRecDepth 100000 in
theorem c_X9_next (l : Launch) (D : va_G) (cI cZ cC cS : ClassId) (sq sz : Nat) (y : Nat) (y_lane : Nat) (y_many : Nat) (y_item : Nat) (y_city : Nat) (y_fresh : Nat) (y_tape : Nat) (y_cost : Nat) (y_away : Nat) (y_fee : Nat) (y_goesTo : Nat) (y_priceWas : Nat) (y_isKept : Nat) (y_kept : Nat) (y_trace : Nat) : mV l yX9_next wsX9_next 1 21 0 0 D (tyW cI cZ cC cS) sq [(y, .inr (9, [.int 0, .int 0, .ref y_lane, .ref y_many, .ref y_item, .ref y_city, .ref y_fresh, .int 0, .ref y_tape, .int 0, .int 0, .int 0, .int 0, .int 0, .int 0, .int 0, .int 0, .int 0, .int 0, .int 0, .ref y_cost, .ref y_away, .ref y_fee, .ref y_goesTo, .ref y_priceWas, .ref y_isKept, .ref y_kept, .ref y_trace, .int 0]))] sz [.ref y] (fun w => w = [(y, .inr (9, [.int 0, .int 0, .ref y_lane, .ref y_many, .ref y_item, .ref y_city, .ref y_fresh, .int 0, .ref y_tape, .int 0, .int 0, .int 0, .int 0, .int 1, .int 0, .int 0, .int 0, .int 0, .int 0, .int 0, .ref y_cost, .ref y_away, .ref y_fee, .ref y_goesTo, .ref y_priceWas, .ref y_isKept, .ref y_kept, .ref y_trace, .int 0]))]) := by
  refine b_metV (cc := cX9_next) (maxL := 2) (ret := none) (by decide) rfl (Nat.le_of_ble_eq_true rfl) ?_
  intro p e s m below meth c ls A H X hsz hP hK hD hA hS hl
  have S : CallFix p m c cX9_next 2 s ([.ref y] : List Value).toArray wsX9_next RX9 := X.1
  have hl : lv_has ls 2 [(0, .ref y)] := hl
  have iX9 := jX9_next_X9
  refine lv_aload_n S.1 S.2.1 dX9_next_0 rfl (lv_at hl 0 rfl) ?_
  refine lv_aload_n S.1 S.2.1 dX9_next_1 rfl (lv_at hl 0 rfl) ?_
  refine b_get (v := .int 0) S iX9 hK hP 0 rfl rfl 12 (by decide) (by decide +kernel) rfl dX9_next_2 ?_
  refine b_ai (wr := []) (b_runV (q0 := 0) (ci := 9) (As := [.int 0]) (c_X9_byteAt l D cI cZ cC cS sq H.size y y_lane y_many y_item y_city y_fresh y_tape y_cost y_away y_fee y_goesTo y_priceWas y_isKept y_kept y_trace) S gX9_next_X9_byteAt rfl hdV_X9_byteAt ⟨Nat.le_of_ble_eq_true rfl, Nat.le_of_ble_eq_true rfl⟩ ⟨Nat.le_of_ble_eq_true rfl, Nat.le_of_ble_eq_true rfl⟩ hK hP hD rfl rfl [0] rfl (by decide) rfl hl.1 rfl (Nat.le_of_ble_eq_true rfl) dX9_next_5) hP hD hS hA [0] [] rfl rfl (by decide) (by decide) (fun r_1 w_2 H locs hw_3 hP hD hS => ?_)
  obtain ⟨rfl, rfl⟩ := hw_3
  have hP : va_P D vwCl [(y, .inr (9, [.int 0, .int 0, .ref y_lane, .ref y_many, .ref y_item, .ref y_city, .ref y_fresh, .int 0, .ref y_tape, .int 0, .int 0, .int 0, .int 0, .int 0, .int 0, .int 0, .int 0, .int 0, .int 0, .int 0, .ref y_cost, .ref y_away, .ref y_fee, .ref y_goesTo, .ref y_priceWas, .ref y_isKept, .ref y_kept, .ref y_trace, .int 0]))] H := hP
  have hD : va_D A [(y, .inr (9, [.int 0, .int 0, .ref y_lane, .ref y_many, .ref y_item, .ref y_city, .ref y_fresh, .int 0, .ref y_tape, .int 0, .int 0, .int 0, .int 0, .int 0, .int 0, .int 0, .int 0, .int 0, .int 0, .int 0, .ref y_cost, .ref y_away, .ref y_fee, .ref y_goesTo, .ref y_priceWas, .ref y_isKept, .ref y_kept, .ref y_trace, .int 0]))] := hD
  refine lv_bipush (v := 32) S.1 S.2.1 dX9_next_8 (by decide) ?_
  refine lv_icmp_eq (tgt := 26) S.1 S.2.1 dX9_next_10 (by decide) (fun c_4 => absurd c_4 (by decide)) (fun c_4 => ?_)
  refine lv_aload_n S.1 S.2.1 dX9_next_13 rfl (lv_at hl 0 rfl) ?_
  refine lv_aload_n S.1 S.2.1 dX9_next_14 rfl (lv_at hl 0 rfl) ?_
  refine b_get (v := .int 0) S iX9 hK hP 0 rfl rfl 12 (by decide) (by decide +kernel) rfl dX9_next_15 ?_
  refine b_ai (wr := []) (b_runV (q0 := 0) (ci := 9) (As := [.int 0]) (c_X9_byteAt l D cI cZ cC cS sq H.size y y_lane y_many y_item y_city y_fresh y_tape y_cost y_away y_fee y_goesTo y_priceWas y_isKept y_kept y_trace) S gX9_next_X9_byteAt rfl hdV_X9_byteAt ⟨Nat.le_of_ble_eq_true rfl, Nat.le_of_ble_eq_true rfl⟩ ⟨Nat.le_of_ble_eq_true rfl, Nat.le_of_ble_eq_true rfl⟩ hK hP hD rfl rfl [0] rfl (by decide) rfl hl.1 rfl (Nat.le_of_ble_eq_true rfl) dX9_next_18) hP hD hS hA [0] [] rfl rfl (by decide) (by decide) (fun r_5 w_6 H locs hw_7 hP hD hS => ?_)
  obtain ⟨rfl, rfl⟩ := hw_7
  have hP : va_P D vwCl [(y, .inr (9, [.int 0, .int 0, .ref y_lane, .ref y_many, .ref y_item, .ref y_city, .ref y_fresh, .int 0, .ref y_tape, .int 0, .int 0, .int 0, .int 0, .int 0, .int 0, .int 0, .int 0, .int 0, .int 0, .int 0, .ref y_cost, .ref y_away, .ref y_fee, .ref y_goesTo, .ref y_priceWas, .ref y_isKept, .ref y_kept, .ref y_trace, .int 0]))] H := hP
  have hD : va_D A [(y, .inr (9, [.int 0, .int 0, .ref y_lane, .ref y_many, .ref y_item, .ref y_city, .ref y_fresh, .int 0, .ref y_tape, .int 0, .int 0, .int 0, .int 0, .int 0, .int 0, .int 0, .int 0, .int 0, .int 0, .int 0, .ref y_cost, .ref y_away, .ref y_fee, .ref y_goesTo, .ref y_priceWas, .ref y_isKept, .ref y_kept, .ref y_trace, .int 0]))] := hD
  refine lv_bipush (v := 10) S.1 S.2.1 dX9_next_21 (by decide) ?_
  refine lv_icmp_ne (tgt := 39) S.1 S.2.1 dX9_next_23 (by decide) (fun c_8 => ?_) (fun c_8 => absurd c_8 (by decide))
  refine lv_aload_n S.1 S.2.1 dX9_next_39 rfl (lv_at hl 0 rfl) ?_
  refine lv_aload_n S.1 S.2.1 dX9_next_40 rfl (lv_at hl 0 rfl) ?_
  refine b_get (v := .int 0) S iX9 hK hP 0 rfl rfl 12 (by decide) (by decide +kernel) rfl dX9_next_41 ?_
  refine b_put (v := .int 0) S iX9 tyX9 tyX9_ok nmX9 hK hP hD hS 0 rfl rfl 14 (by decide) (by decide +kernel) rfl rfl rfl (Nat.le_of_ble_eq_true rfl) dX9_next_44 (fun H locs hP hD hS => ?_)
  have hP : va_P D vwCl [(y, .inr (9, [.int 0, .int 0, .ref y_lane, .ref y_many, .ref y_item, .ref y_city, .ref y_fresh, .int 0, .ref y_tape, .int 0, .int 0, .int 0, .int 0, .int 0, .int 0, .int 0, .int 0, .int 0, .int 0, .int 0, .ref y_cost, .ref y_away, .ref y_fee, .ref y_goesTo, .ref y_priceWas, .ref y_isKept, .ref y_kept, .ref y_trace, .int 0]))] H := hP
  have hD : va_D A [(y, .inr (9, [.int 0, .int 0, .ref y_lane, .ref y_many, .ref y_item, .ref y_city, .ref y_fresh, .int 0, .ref y_tape, .int 0, .int 0, .int 0, .int 0, .int 0, .int 0, .int 0, .int 0, .int 0, .int 0, .int 0, .ref y_cost, .ref y_away, .ref y_fee, .ref y_goesTo, .ref y_priceWas, .ref y_isKept, .ref y_kept, .ref y_trace, .int 0]))] := hD
  refine lv_aload_n S.1 S.2.1 dX9_next_47 rfl (lv_at hl 0 rfl) ?_
  refine lv_aload_n S.1 S.2.1 dX9_next_48 rfl (lv_at hl 0 rfl) ?_
  refine b_get (v := .int 0) S iX9 hK hP 0 rfl rfl 12 (by decide) (by decide +kernel) rfl dX9_next_49 ?_
  refine b_ai (wr := []) (b_runV (q0 := 0) (ci := 9) (As := [.int 0]) (c_X9_byteAt l D cI cZ cC cS sq H.size y y_lane y_many y_item y_city y_fresh y_tape y_cost y_away y_fee y_goesTo y_priceWas y_isKept y_kept y_trace) S gX9_next_X9_byteAt rfl hdV_X9_byteAt ⟨Nat.le_of_ble_eq_true rfl, Nat.le_of_ble_eq_true rfl⟩ ⟨Nat.le_of_ble_eq_true rfl, Nat.le_of_ble_eq_true rfl⟩ hK hP hD rfl rfl [0] rfl (by decide) rfl hl.1 rfl (Nat.le_of_ble_eq_true rfl) dX9_next_52) hP hD hS hA [0] [] rfl rfl (by decide) (by decide) (fun r_9 w_10 H locs hw_11 hP hD hS => ?_)
  obtain ⟨rfl, rfl⟩ := hw_11
  have hP : va_P D vwCl [(y, .inr (9, [.int 0, .int 0, .ref y_lane, .ref y_many, .ref y_item, .ref y_city, .ref y_fresh, .int 0, .ref y_tape, .int 0, .int 0, .int 0, .int 0, .int 0, .int 0, .int 0, .int 0, .int 0, .int 0, .int 0, .ref y_cost, .ref y_away, .ref y_fee, .ref y_goesTo, .ref y_priceWas, .ref y_isKept, .ref y_kept, .ref y_trace, .int 0]))] H := hP
  have hD : va_D A [(y, .inr (9, [.int 0, .int 0, .ref y_lane, .ref y_many, .ref y_item, .ref y_city, .ref y_fresh, .int 0, .ref y_tape, .int 0, .int 0, .int 0, .int 0, .int 0, .int 0, .int 0, .int 0, .int 0, .int 0, .int 0, .ref y_cost, .ref y_away, .ref y_fee, .ref y_goesTo, .ref y_priceWas, .ref y_isKept, .ref y_kept, .ref y_trace, .int 0]))] := hD
  refine lv_istore_n (lv' := [(1, .int (-1000000)), (0, .ref y)]) S.1 S.2.1 dX9_next_55 rfl hl (by decide) rfl (fun ls hl => ?_)
  refine lv_iload_n S.1 S.2.1 dX9_next_56 rfl (lv_at hl 0 rfl) ?_
  refine lv_ldc (v := (-1000000)) S.1 S.2.1 S.2.2.2.1 (S.2.2.2.2 (.constant RX9 89 (-1000000)) (by decide +kernel)) dX9_next_57 ?_
  refine lv_icmp_ne (tgt := 70) S.1 S.2.1 dX9_next_59 (by decide) (fun c_12 => absurd c_12 (by decide)) (fun c_12 => ?_)
  refine lv_aload_n S.1 S.2.1 dX9_next_62 rfl (lv_at hl 1 rfl) ?_
  refine lv_iconst (v := 1) S.1 S.2.1 dX9_next_63 (by decide) ?_
  refine b_put (v := .int 1) S iX9 tyX9 tyX9_ok nmX9 hK hP hD hS 0 rfl rfl 13 (by decide) (by decide +kernel) rfl rfl rfl (Nat.le_of_ble_eq_true rfl) dX9_next_64 (fun H locs hP hD hS => ?_)
  have hP : va_P D vwCl [(y, .inr (9, [.int 0, .int 0, .ref y_lane, .ref y_many, .ref y_item, .ref y_city, .ref y_fresh, .int 0, .ref y_tape, .int 0, .int 0, .int 0, .int 0, .int 1, .int 0, .int 0, .int 0, .int 0, .int 0, .int 0, .ref y_cost, .ref y_away, .ref y_fee, .ref y_goesTo, .ref y_priceWas, .ref y_isKept, .ref y_kept, .ref y_trace, .int 0]))] H := hP
  have hD : va_D A [(y, .inr (9, [.int 0, .int 0, .ref y_lane, .ref y_many, .ref y_item, .ref y_city, .ref y_fresh, .int 0, .ref y_tape, .int 0, .int 0, .int 0, .int 0, .int 1, .int 0, .int 0, .int 0, .int 0, .int 0, .int 0, .ref y_cost, .ref y_away, .ref y_fee, .ref y_goesTo, .ref y_priceWas, .ref y_isKept, .ref y_kept, .ref y_trace, .int 0]))] := hD
  refine lv_goto (tgt := 196) S.1 S.2.1 dX9_next_67 (by decide) ?_
  refine lv_aload_n S.1 S.2.1 dX9_next_196 rfl (lv_at hl 1 rfl) ?_
  refine lv_aload_n S.1 S.2.1 dX9_next_197 rfl (lv_at hl 1 rfl) ?_
  refine b_get (v := .int 0) S iX9 hK hP 0 rfl rfl 12 (by decide) (by decide +kernel) rfl dX9_next_198 ?_
  refine b_put (v := .int 0) S iX9 tyX9 tyX9_ok nmX9 hK hP hD hS 0 rfl rfl 15 (by decide) (by decide +kernel) rfl rfl rfl (Nat.le_of_ble_eq_true rfl) dX9_next_201 (fun H locs hP hD hS => ?_)
  have hP : va_P D vwCl [(y, .inr (9, [.int 0, .int 0, .ref y_lane, .ref y_many, .ref y_item, .ref y_city, .ref y_fresh, .int 0, .ref y_tape, .int 0, .int 0, .int 0, .int 0, .int 1, .int 0, .int 0, .int 0, .int 0, .int 0, .int 0, .ref y_cost, .ref y_away, .ref y_fee, .ref y_goesTo, .ref y_priceWas, .ref y_isKept, .ref y_kept, .ref y_trace, .int 0]))] H := hP
  have hD : va_D A [(y, .inr (9, [.int 0, .int 0, .ref y_lane, .ref y_many, .ref y_item, .ref y_city, .ref y_fresh, .int 0, .ref y_tape, .int 0, .int 0, .int 0, .int 0, .int 1, .int 0, .int 0, .int 0, .int 0, .int 0, .int 0, .ref y_cost, .ref y_away, .ref y_fee, .ref y_goesTo, .ref y_priceWas, .ref y_isKept, .ref y_kept, .ref y_trace, .int 0]))] := hD
  exact b_vret S.1 S.2.1 X.2.1 X.2.2.1 hP hD hS rfl dX9_next_204
set_option maxHeartbeats 4000000 in
set_option maxRecDepth 100000 in
theorem c_X9_begin (l : Launch) (D : va_G) (cI cZ cC cS : ClassId) (sq sz : Nat) (y : Nat) (y_lane : Nat) (y_many : Nat) (y_item : Nat) (y_city : Nat) (y_fresh : Nat) (y_tape : Nat) (y_cost : Nat) (y_away : Nat) (y_fee : Nat) (y_goesTo : Nat) (y_priceWas : Nat) (y_isKept : Nat) (y_kept : Nat) (y_trace : Nat) : mV l yX9_begin wsX9_begin 2 42 0 0 D (tyW cI cZ cC cS) sq [(y, .inr (9, [.int 0, .int 0, .ref y_lane, .ref y_many, .ref y_item, .ref y_city, .ref y_fresh, .int 0, .ref y_tape, .int 0, .int 0, .int 0, .int 0, .int 0, .int 0, .int 0, .int 0, .int 0, .int 0, .int 0, .ref y_cost, .ref y_away, .ref y_fee, .ref y_goesTo, .ref y_priceWas, .ref y_isKept, .ref y_kept, .ref y_trace, .int 0]))] sz [.ref y] (fun w => w = [(y, .inr (9, [.int 0, .int 0, .ref y_lane, .ref y_many, .ref y_item, .ref y_city, .ref y_fresh, .int 0, .ref y_tape, .int 0, .int 0, .int 0, .int 0, .int 1, .int 0, .int 0, .int 0, .int 0, .int 0, .int 0, .ref y_cost, .ref y_away, .ref y_fee, .ref y_goesTo, .ref y_priceWas, .ref y_isKept, .ref y_kept, .ref y_trace, .int 0]))]) := by
  refine b_metV (cc := cX9_begin) (maxL := 1) (ret := none) (by decide) rfl (Nat.le_of_ble_eq_true rfl) ?_
  intro p e s m below meth c ls A H X hsz hP hK hD hA hS hl
  have S : CallFix p m c cX9_begin 1 s ([.ref y] : List Value).toArray wsX9_begin RX9 := X.1
  have hl : lv_has ls 1 [(0, .ref y)] := hl
  have iX9 := jX9_begin_X9
  refine lv_aload_n S.1 S.2.1 dX9_begin_0 rfl (lv_at hl 0 rfl) ?_
  refine lv_aload_n S.1 S.2.1 dX9_begin_1 rfl (lv_at hl 0 rfl) ?_
  refine b_get (v := .int 0) S iX9 hK hP 0 rfl rfl 9 (by decide) (by decide +kernel) rfl dX9_begin_2 ?_
  refine b_put (v := .int 0) S iX9 tyX9 tyX9_ok nmX9 hK hP hD hS 0 rfl rfl 11 (by decide) (by decide +kernel) rfl rfl rfl (Nat.le_of_ble_eq_true rfl) dX9_begin_5 (fun H locs hP hD hS => ?_)
  have hP : va_P D vwCl [(y, .inr (9, [.int 0, .int 0, .ref y_lane, .ref y_many, .ref y_item, .ref y_city, .ref y_fresh, .int 0, .ref y_tape, .int 0, .int 0, .int 0, .int 0, .int 0, .int 0, .int 0, .int 0, .int 0, .int 0, .int 0, .ref y_cost, .ref y_away, .ref y_fee, .ref y_goesTo, .ref y_priceWas, .ref y_isKept, .ref y_kept, .ref y_trace, .int 0]))] H := hP
  have hD : va_D A [(y, .inr (9, [.int 0, .int 0, .ref y_lane, .ref y_many, .ref y_item, .ref y_city, .ref y_fresh, .int 0, .ref y_tape, .int 0, .int 0, .int 0, .int 0, .int 0, .int 0, .int 0, .int 0, .int 0, .int 0, .int 0, .ref y_cost, .ref y_away, .ref y_fee, .ref y_goesTo, .ref y_priceWas, .ref y_isKept, .ref y_kept, .ref y_trace, .int 0]))] := hD
  refine lv_aload_n S.1 S.2.1 dX9_begin_8 rfl (lv_at hl 0 rfl) ?_
  refine lv_iconst (v := 0) S.1 S.2.1 dX9_begin_9 (by decide) ?_
  refine b_put (v := .int 0) S iX9 tyX9 tyX9_ok nmX9 hK hP hD hS 0 rfl rfl 9 (by decide) (by decide +kernel) rfl rfl rfl (Nat.le_of_ble_eq_true rfl) dX9_begin_10 (fun H locs hP hD hS => ?_)
  have hP : va_P D vwCl [(y, .inr (9, [.int 0, .int 0, .ref y_lane, .ref y_many, .ref y_item, .ref y_city, .ref y_fresh, .int 0, .ref y_tape, .int 0, .int 0, .int 0, .int 0, .int 0, .int 0, .int 0, .int 0, .int 0, .int 0, .int 0, .ref y_cost, .ref y_away, .ref y_fee, .ref y_goesTo, .ref y_priceWas, .ref y_isKept, .ref y_kept, .ref y_trace, .int 0]))] H := hP
  have hD : va_D A [(y, .inr (9, [.int 0, .int 0, .ref y_lane, .ref y_many, .ref y_item, .ref y_city, .ref y_fresh, .int 0, .ref y_tape, .int 0, .int 0, .int 0, .int 0, .int 0, .int 0, .int 0, .int 0, .int 0, .int 0, .int 0, .ref y_cost, .ref y_away, .ref y_fee, .ref y_goesTo, .ref y_priceWas, .ref y_isKept, .ref y_kept, .ref y_trace, .int 0]))] := hD
  refine lv_aload_n S.1 S.2.1 dX9_begin_13 rfl (lv_at hl 0 rfl) ?_
  refine lv_iconst (v := 0) S.1 S.2.1 dX9_begin_14 (by decide) ?_
  refine b_put (v := .int 0) S iX9 tyX9 tyX9_ok nmX9 hK hP hD hS 0 rfl rfl 12 (by decide) (by decide +kernel) rfl rfl rfl (Nat.le_of_ble_eq_true rfl) dX9_begin_15 (fun H locs hP hD hS => ?_)
  have hP : va_P D vwCl [(y, .inr (9, [.int 0, .int 0, .ref y_lane, .ref y_many, .ref y_item, .ref y_city, .ref y_fresh, .int 0, .ref y_tape, .int 0, .int 0, .int 0, .int 0, .int 0, .int 0, .int 0, .int 0, .int 0, .int 0, .int 0, .ref y_cost, .ref y_away, .ref y_fee, .ref y_goesTo, .ref y_priceWas, .ref y_isKept, .ref y_kept, .ref y_trace, .int 0]))] H := hP
  have hD : va_D A [(y, .inr (9, [.int 0, .int 0, .ref y_lane, .ref y_many, .ref y_item, .ref y_city, .ref y_fresh, .int 0, .ref y_tape, .int 0, .int 0, .int 0, .int 0, .int 0, .int 0, .int 0, .int 0, .int 0, .int 0, .int 0, .ref y_cost, .ref y_away, .ref y_fee, .ref y_goesTo, .ref y_priceWas, .ref y_isKept, .ref y_kept, .ref y_trace, .int 0]))] := hD
  refine lv_aload_n S.1 S.2.1 dX9_begin_18 rfl (lv_at hl 0 rfl) ?_
  refine lv_iconst (v := 0) S.1 S.2.1 dX9_begin_19 (by decide) ?_
  refine b_put (v := .int 0) S iX9 tyX9 tyX9_ok nmX9 hK hP hD hS 0 rfl rfl 16 (by decide) (by decide +kernel) rfl rfl rfl (Nat.le_of_ble_eq_true rfl) dX9_begin_20 (fun H locs hP hD hS => ?_)
  have hP : va_P D vwCl [(y, .inr (9, [.int 0, .int 0, .ref y_lane, .ref y_many, .ref y_item, .ref y_city, .ref y_fresh, .int 0, .ref y_tape, .int 0, .int 0, .int 0, .int 0, .int 0, .int 0, .int 0, .int 0, .int 0, .int 0, .int 0, .ref y_cost, .ref y_away, .ref y_fee, .ref y_goesTo, .ref y_priceWas, .ref y_isKept, .ref y_kept, .ref y_trace, .int 0]))] H := hP
  have hD : va_D A [(y, .inr (9, [.int 0, .int 0, .ref y_lane, .ref y_many, .ref y_item, .ref y_city, .ref y_fresh, .int 0, .ref y_tape, .int 0, .int 0, .int 0, .int 0, .int 0, .int 0, .int 0, .int 0, .int 0, .int 0, .int 0, .ref y_cost, .ref y_away, .ref y_fee, .ref y_goesTo, .ref y_priceWas, .ref y_isKept, .ref y_kept, .ref y_trace, .int 0]))] := hD
  refine lv_aload_n S.1 S.2.1 dX9_begin_23 rfl (lv_at hl 0 rfl) ?_
  refine b_av (wr := []) (b_runV (q0 := 0) (ci := 9) (As := []) (c_X9_next l D cI cZ cC cS sq H.size y y_lane y_many y_item y_city y_fresh y_tape y_cost y_away y_fee y_goesTo y_priceWas y_isKept y_kept y_trace) S gX9_begin_X9_next rfl hdV_X9_next ⟨Nat.le_of_ble_eq_true rfl, Nat.le_of_ble_eq_true rfl⟩ ⟨Nat.le_of_ble_eq_true rfl, Nat.le_of_ble_eq_true rfl⟩ hK hP hD rfl rfl [0] rfl (by decide) rfl hl.1 rfl (Nat.le_of_ble_eq_true rfl) dX9_begin_24) hP hD hS hA [0] [] rfl rfl (by decide) (by decide) (fun w_2 H locs hw_3 hP hD hS => ?_)
  subst hw_3
  have hP : va_P D vwCl [(y, .inr (9, [.int 0, .int 0, .ref y_lane, .ref y_many, .ref y_item, .ref y_city, .ref y_fresh, .int 0, .ref y_tape, .int 0, .int 0, .int 0, .int 0, .int 1, .int 0, .int 0, .int 0, .int 0, .int 0, .int 0, .ref y_cost, .ref y_away, .ref y_fee, .ref y_goesTo, .ref y_priceWas, .ref y_isKept, .ref y_kept, .ref y_trace, .int 0]))] H := hP
  have hD : va_D A [(y, .inr (9, [.int 0, .int 0, .ref y_lane, .ref y_many, .ref y_item, .ref y_city, .ref y_fresh, .int 0, .ref y_tape, .int 0, .int 0, .int 0, .int 0, .int 1, .int 0, .int 0, .int 0, .int 0, .int 0, .int 0, .ref y_cost, .ref y_away, .ref y_fee, .ref y_goesTo, .ref y_priceWas, .ref y_isKept, .ref y_kept, .ref y_trace, .int 0]))] := hD
  exact b_vret S.1 S.2.1 X.2.1 X.2.2.1 hP hD hS rfl dX9_begin_27
set_option maxHeartbeats 4000000 in
set_option maxRecDepth 100000 in
theorem c_X9_name_0 (l : Launch) (D : va_G) (cI cZ cC cS : ClassId) (sq sz : Nat) (y : Nat) (y_lane : Nat) (y_many : Nat) (y_item : Nat) (y_city : Nat) (y_fresh : Nat) (y_tape : Nat) (y_cost : Nat) (y_away : Nat) (y_fee : Nat) (y_goesTo : Nat) (y_priceWas : Nat) (y_isKept : Nat) (y_kept : Nat) (y_trace : Nat) : mL l yX9_name wsX9_name 0 0 D (tyW cI cZ cC cS) sq [(y, .inr (9, [.int 0, .int 0, .ref y_lane, .ref y_many, .ref y_item, .ref y_city, .ref y_fresh, .int 0, .ref y_tape, .int 0, .int 0, .int 0, .int 0, .int 1, .int 0, .int 0, .int 0, .int 0, .int 0, .int 0, .ref y_cost, .ref y_away, .ref y_fee, .ref y_goesTo, .ref y_priceWas, .ref y_isKept, .ref y_kept, .ref y_trace, .int 0]))] sz [.ref y] (fun r w => r = 0 ∧ w = [(y, .inr (9, [.int 0, .int 0, .ref y_lane, .ref y_many, .ref y_item, .ref y_city, .ref y_fresh, .int 0, .ref y_tape, .int 0, .int 0, .int 0, .int 0, .int 1, .int 0, .int 0, .int 0, .int 0, .int 0, .int 0, .ref y_cost, .ref y_away, .ref y_fee, .ref y_goesTo, .ref y_priceWas, .ref y_isKept, .ref y_kept, .ref y_trace, .int 0]))]) := by
  refine b_metL (cc := cX9_name) (maxL := 4) (ret := (some .long)) (by decide) rfl (Nat.le_of_ble_eq_true rfl) ?_
  intro p e s m below meth c ls A H X hsz hP hK hD hA hS hl
  have S : CallFix p m c cX9_name 4 s ([.ref y] : List Value).toArray wsX9_name RX9 := X.1
  have hl : lv_has ls 4 [(0, .ref y)] := hl
  have iX9 := jX9_name_X9
  refine lv_lconst (v := 0) S.1 S.2.1 dX9_name_0 (by decide) ?_
  refine lv_lstore_n (lv' := [(1, .long 0), (0, .ref y)]) S.1 S.2.1 dX9_name_1 rfl hl (by decide) rfl (fun ls hl => ?_)
  refine lv_aload_n S.1 S.2.1 dX9_name_2 rfl (lv_at hl 1 rfl) ?_
  refine b_get (v := .int 0) S iX9 hK hP 0 rfl rfl 14 (by decide) (by decide +kernel) rfl dX9_name_3 ?_
  refine lv_istore_n (lv' := [(3, .int 0), (1, .long 0), (0, .ref y)]) S.1 S.2.1 dX9_name_6 rfl hl (by decide) rfl (fun ls hl => ?_)
  refine lv_iload_n S.1 S.2.1 dX9_name_7 rfl (lv_at hl 0 rfl) ?_
  refine lv_aload_n S.1 S.2.1 dX9_name_8 rfl (lv_at hl 2 rfl) ?_
  refine b_get (v := .int 0) S iX9 hK hP 0 rfl rfl 15 (by decide) (by decide +kernel) rfl dX9_name_9 ?_
  refine lv_icmp_ge (tgt := 56) S.1 S.2.1 dX9_name_12 (by decide) (fun c_1 => ?_) (fun c_1 => absurd c_1 (by decide))
  refine lv_aload_n S.1 S.2.1 dX9_name_56 rfl (lv_at hl 2 rfl) ?_
  refine b_get (v := .int 0) S iX9 hK hP 0 rfl rfl 16 (by decide) (by decide +kernel) rfl dX9_name_57 ?_
  refine lv_if_ne (tgt := 67) S.1 S.2.1 dX9_name_60 (by decide) (fun c_2 => absurd c_2 (by decide)) (fun c_2 => ?_)
  refine lv_lload_n S.1 S.2.1 dX9_name_63 rfl (lv_at hl 1 rfl) ?_
  refine lv_goto (tgt := 68) S.1 S.2.1 dX9_name_64 (by decide) ?_
  exact b_lret S.1 S.2.1 X.2.1 X.2.2.1 hP hD hS ⟨rfl, rfl⟩ dX9_name_68
set_option maxHeartbeats 4000000 in
set_option maxRecDepth 100000 in
theorem c_X9_name_1 (l : Launch) (D : va_G) (cI cZ cC cS : ClassId) (sq sz : Nat) (y : Nat) (y_lane : Nat) (y_many : Nat) (y_item : Nat) (y_city : Nat) (y_fresh : Nat) (y_tape : Nat) (y_cost : Nat) (y_away : Nat) (y_fee : Nat) (y_goesTo : Nat) (y_priceWas : Nat) (y_isKept : Nat) (y_kept : Nat) (y_trace : Nat) : mL l yX9_name wsX9_name 0 0 D (tyW cI cZ cC cS) sq [(y, .inr (9, [.int 0, .int 0, .ref y_lane, .ref y_many, .ref y_item, .ref y_city, .ref y_fresh, .int 0, .ref y_tape, .int 0, .int 0, .int 0, .int 0, .int 1, .int 0, .int 0, .int 1, .int 0, .int 0, .int 0, .ref y_cost, .ref y_away, .ref y_fee, .ref y_goesTo, .ref y_priceWas, .ref y_isKept, .ref y_kept, .ref y_trace, .int 0]))] sz [.ref y] (fun r w => r = 0 ∧ w = [(y, .inr (9, [.int 0, .int 0, .ref y_lane, .ref y_many, .ref y_item, .ref y_city, .ref y_fresh, .int 0, .ref y_tape, .int 0, .int 0, .int 0, .int 0, .int 1, .int 0, .int 0, .int 1, .int 0, .int 0, .int 0, .ref y_cost, .ref y_away, .ref y_fee, .ref y_goesTo, .ref y_priceWas, .ref y_isKept, .ref y_kept, .ref y_trace, .int 0]))]) := by
  refine b_metL (cc := cX9_name) (maxL := 4) (ret := (some .long)) (by decide) rfl (Nat.le_of_ble_eq_true rfl) ?_
  intro p e s m below meth c ls A H X hsz hP hK hD hA hS hl
  have S : CallFix p m c cX9_name 4 s ([.ref y] : List Value).toArray wsX9_name RX9 := X.1
  have hl : lv_has ls 4 [(0, .ref y)] := hl
  have iX9 := jX9_name_X9
  refine lv_lconst (v := 0) S.1 S.2.1 dX9_name_0 (by decide) ?_
  refine lv_lstore_n (lv' := [(1, .long 0), (0, .ref y)]) S.1 S.2.1 dX9_name_1 rfl hl (by decide) rfl (fun ls hl => ?_)
  refine lv_aload_n S.1 S.2.1 dX9_name_2 rfl (lv_at hl 1 rfl) ?_
  refine b_get (v := .int 0) S iX9 hK hP 0 rfl rfl 14 (by decide) (by decide +kernel) rfl dX9_name_3 ?_
  refine lv_istore_n (lv' := [(3, .int 0), (1, .long 0), (0, .ref y)]) S.1 S.2.1 dX9_name_6 rfl hl (by decide) rfl (fun ls hl => ?_)
  refine lv_iload_n S.1 S.2.1 dX9_name_7 rfl (lv_at hl 0 rfl) ?_
  refine lv_aload_n S.1 S.2.1 dX9_name_8 rfl (lv_at hl 2 rfl) ?_
  refine b_get (v := .int 0) S iX9 hK hP 0 rfl rfl 15 (by decide) (by decide +kernel) rfl dX9_name_9 ?_
  refine lv_icmp_ge (tgt := 56) S.1 S.2.1 dX9_name_12 (by decide) (fun c_1 => ?_) (fun c_1 => absurd c_1 (by decide))
  refine lv_aload_n S.1 S.2.1 dX9_name_56 rfl (lv_at hl 2 rfl) ?_
  refine b_get (v := .int 1) S iX9 hK hP 0 rfl rfl 16 (by decide) (by decide +kernel) rfl dX9_name_57 ?_
  refine lv_if_ne (tgt := 67) S.1 S.2.1 dX9_name_60 (by decide) (fun c_2 => ?_) (fun c_2 => absurd c_2 (by decide))
  refine lv_lconst (v := 0) S.1 S.2.1 dX9_name_67 (by decide) ?_
  exact b_lret S.1 S.2.1 X.2.1 X.2.2.1 hP hD hS ⟨rfl, rfl⟩ dX9_name_68
set_option maxHeartbeats 4000000 in
set_option maxRecDepth 100000 in
theorem c_X9_bad_1 (l : Launch) (D : va_G) (cI cZ cC cS : ClassId) (sq sz : Nat) (y : Nat) (y_lane : Nat) (y_many : Nat) (y_item : Nat) (y_city : Nat) (y_fresh : Nat) (y_tape : Nat) (y_cost : Nat) (y_away : Nat) (y_fee : Nat) (y_goesTo : Nat) (y_priceWas : Nat) (y_isKept : Nat) (y_kept : Nat) (y_trace : Nat) : mV l yX9_bad wsX9_bad 0 0 0 0 D (tyW cI cZ cC cS) sq [(y, .inr (9, [.int 0, .int 0, .ref y_lane, .ref y_many, .ref y_item, .ref y_city, .ref y_fresh, .int 0, .ref y_tape, .int 0, .int 0, .int 0, .int 0, .int 1, .int 0, .int 0, .int 0, .int 0, .int 0, .int 0, .ref y_cost, .ref y_away, .ref y_fee, .ref y_goesTo, .ref y_priceWas, .ref y_isKept, .ref y_kept, .ref y_trace, .int 0]))] sz [.ref y, .int 1] (fun w => w = [(y, .inr (9, [.int 0, .int 0, .ref y_lane, .ref y_many, .ref y_item, .ref y_city, .ref y_fresh, .int 0, .ref y_tape, .int 0, .int 0, .int 0, .int 0, .int 1, .int 0, .int 0, .int 1, .int 0, .int 0, .int 0, .ref y_cost, .ref y_away, .ref y_fee, .ref y_goesTo, .ref y_priceWas, .ref y_isKept, .ref y_kept, .ref y_trace, .int 0]))]) := by
  refine b_metV (cc := cX9_bad) (maxL := 2) (ret := none) (by decide) rfl (Nat.le_of_ble_eq_true rfl) ?_
  intro p e s m below meth c ls A H X hsz hP hK hD hA hS hl
  have S : CallFix p m c cX9_bad 2 s ([.ref y, .int 1] : List Value).toArray wsX9_bad RX9 := X.1
  have hl : lv_has ls 2 [(0, .ref y), (1, .int 1)] := hl
  have iX9 := jX9_bad_X9
  refine lv_aload_n S.1 S.2.1 dX9_bad_0 rfl (lv_at hl 0 rfl) ?_
  refine b_get (v := .int 0) S iX9 hK hP 0 rfl rfl 16 (by decide) (by decide +kernel) rfl dX9_bad_1 ?_
  refine lv_if_ne (tgt := 20) S.1 S.2.1 dX9_bad_4 (by decide) (fun c_1 => absurd c_1 (by decide)) (fun c_1 => ?_)
  refine lv_aload_n S.1 S.2.1 dX9_bad_7 rfl (lv_at hl 0 rfl) ?_
  refine lv_iload_n S.1 S.2.1 dX9_bad_8 rfl (lv_at hl 1 rfl) ?_
  refine b_put (v := .int 1) S iX9 tyX9 tyX9_ok nmX9 hK hP hD hS 0 rfl rfl 16 (by decide) (by decide +kernel) rfl rfl rfl (Nat.le_of_ble_eq_true rfl) dX9_bad_9 (fun H locs hP hD hS => ?_)
  have hP : va_P D vwCl [(y, .inr (9, [.int 0, .int 0, .ref y_lane, .ref y_many, .ref y_item, .ref y_city, .ref y_fresh, .int 0, .ref y_tape, .int 0, .int 0, .int 0, .int 0, .int 1, .int 0, .int 0, .int 1, .int 0, .int 0, .int 0, .ref y_cost, .ref y_away, .ref y_fee, .ref y_goesTo, .ref y_priceWas, .ref y_isKept, .ref y_kept, .ref y_trace, .int 0]))] H := hP
  have hD : va_D A [(y, .inr (9, [.int 0, .int 0, .ref y_lane, .ref y_many, .ref y_item, .ref y_city, .ref y_fresh, .int 0, .ref y_tape, .int 0, .int 0, .int 0, .int 0, .int 1, .int 0, .int 0, .int 1, .int 0, .int 0, .int 0, .ref y_cost, .ref y_away, .ref y_fee, .ref y_goesTo, .ref y_priceWas, .ref y_isKept, .ref y_kept, .ref y_trace, .int 0]))] := hD
  refine lv_aload_n S.1 S.2.1 dX9_bad_12 rfl (lv_at hl 0 rfl) ?_
  refine lv_aload_n S.1 S.2.1 dX9_bad_13 rfl (lv_at hl 0 rfl) ?_
  refine b_get (v := .int 0) S iX9 hK hP 0 rfl rfl 14 (by decide) (by decide +kernel) rfl dX9_bad_14 ?_
  refine b_put (v := .int 0) S iX9 tyX9 tyX9_ok nmX9 hK hP hD hS 0 rfl rfl 17 (by decide) (by decide +kernel) rfl rfl rfl (Nat.le_of_ble_eq_true rfl) dX9_bad_17 (fun H locs hP hD hS => ?_)
  have hP : va_P D vwCl [(y, .inr (9, [.int 0, .int 0, .ref y_lane, .ref y_many, .ref y_item, .ref y_city, .ref y_fresh, .int 0, .ref y_tape, .int 0, .int 0, .int 0, .int 0, .int 1, .int 0, .int 0, .int 1, .int 0, .int 0, .int 0, .ref y_cost, .ref y_away, .ref y_fee, .ref y_goesTo, .ref y_priceWas, .ref y_isKept, .ref y_kept, .ref y_trace, .int 0]))] H := hP
  have hD : va_D A [(y, .inr (9, [.int 0, .int 0, .ref y_lane, .ref y_many, .ref y_item, .ref y_city, .ref y_fresh, .int 0, .ref y_tape, .int 0, .int 0, .int 0, .int 0, .int 1, .int 0, .int 0, .int 1, .int 0, .int 0, .int 0, .ref y_cost, .ref y_away, .ref y_fee, .ref y_goesTo, .ref y_priceWas, .ref y_isKept, .ref y_kept, .ref y_trace, .int 0]))] := hD
  exact b_vret S.1 S.2.1 X.2.1 X.2.2.1 hP hD hS rfl dX9_bad_20
