set_option maxRecDepth 20000 in
theorem ggX1_isMirror_X1_isCell : GoodIn wsX1_isMirror wsX1_isCell := goodIn_r _ [6, 7, 8, 9, 10, 11, 12, 13, 14, 15, 16, 17, 18, 19, 20] (by first | exact rfl | decide +kernel) (by decide +kernel)
set_option maxRecDepth 20000 in
theorem gX1_isMirror_X1_isCell : GoodIn wsX1_isMirror (wsV RX1 61 RX1 yX1_isCell wsX1_isCell) := goodIn_app (goodIn_r _ [2, 3, 4, 5] (by first | exact rfl | decide +kernel) (by decide +kernel)) ggX1_isMirror_X1_isCell
set_option maxRecDepth 20000 in
theorem ggX1_isOpen_X1_isCell : GoodIn wsX1_isOpen wsX1_isCell := goodIn_r _ [6, 7, 8, 9, 10, 11, 12, 13, 14, 15, 16, 17, 18, 19, 20] (by first | exact rfl | decide +kernel) (by decide +kernel)
set_option maxRecDepth 20000 in
theorem gX1_isOpen_X1_isCell : GoodIn wsX1_isOpen (wsV RX1 61 RX1 yX1_isCell wsX1_isCell) := goodIn_app (goodIn_r _ [2, 3, 4, 5] (by first | exact rfl | decide +kernel) (by decide +kernel)) ggX1_isOpen_X1_isCell
set_option maxRecDepth 20000 in
theorem ggX1_ownerOf_X1_isCell : GoodIn wsX1_ownerOf wsX1_isCell := goodIn_r _ [6, 7, 8, 9, 10, 11, 12, 13, 14, 15, 16, 17, 18, 19, 20] (by first | exact rfl | decide +kernel) (by decide +kernel)
set_option maxRecDepth 20000 in
theorem gX1_ownerOf_X1_isCell : GoodIn wsX1_ownerOf (wsV RX1 61 RX1 yX1_isCell wsX1_isCell) := goodIn_app (goodIn_r _ [2, 3, 4, 5] (by first | exact rfl | decide +kernel) (by decide +kernel)) ggX1_ownerOf_X1_isCell
set_option maxRecDepth 20000 in
theorem ggX1_priceAt_X1_ownerOf : GoodIn wsX1_priceAt wsX1_ownerOf := goodIn_r _ [6, 7, 8, 9, 10, 5, 11, 12, 13, 14, 15, 16, 17, 18, 19, 20, 21, 22, 23, 24, 25] (by first | exact rfl | decide +kernel) (by decide +kernel)
set_option maxRecDepth 20000 in
theorem gX1_priceAt_X1_ownerOf : GoodIn wsX1_priceAt (wsV RX1 65 RX1 yX1_ownerOf wsX1_ownerOf) := goodIn_app (goodIn_r _ [2, 3, 4, 5] (by first | exact rfl | decide +kernel) (by decide +kernel)) ggX1_priceAt_X1_ownerOf
set_option maxRecDepth 20000 in
theorem gdX1_isCell_0 : decode cX1_isCell 0 = .ok (.iload_n 1, 1) ∧ decode cX1_isCell 1 = .ok (.ifCond .lt 29, 3) ∧ decode cX1_isCell 4 = .ok (.iload_n 1, 1) ∧ decode cX1_isCell 5 = .ok (.bipush 10, 2) ∧ decode cX1_isCell 7 = .ok (.irem, 1) ∧ decode cX1_isCell 8 = .ok (.aload_n 0, 1) ∧ decode cX1_isCell 9 = .ok (.getfield 9, 3) ∧ decode cX1_isCell 12 = .ok (.if_icmp .ge 18, 3) := by decide +kernel
theorem dX1_isCell_0 : decode cX1_isCell 0 = .ok (.iload_n 1, 1) := gdX1_isCell_0.1
theorem dX1_isCell_1 : decode cX1_isCell 1 = .ok (.ifCond .lt 29, 3) := gdX1_isCell_0.2.1
theorem dX1_isCell_4 : decode cX1_isCell 4 = .ok (.iload_n 1, 1) := gdX1_isCell_0.2.2.1
theorem dX1_isCell_5 : decode cX1_isCell 5 = .ok (.bipush 10, 2) := gdX1_isCell_0.2.2.2.1
theorem dX1_isCell_7 : decode cX1_isCell 7 = .ok (.irem, 1) := gdX1_isCell_0.2.2.2.2.1
theorem dX1_isCell_8 : decode cX1_isCell 8 = .ok (.aload_n 0, 1) := gdX1_isCell_0.2.2.2.2.2.1
theorem dX1_isCell_9 : decode cX1_isCell 9 = .ok (.getfield 9, 3) := gdX1_isCell_0.2.2.2.2.2.2.1
theorem dX1_isCell_12 : decode cX1_isCell 12 = .ok (.if_icmp .ge 18, 3) := gdX1_isCell_0.2.2.2.2.2.2.2
set_option maxRecDepth 20000 in
theorem gdX1_isCell_15 : decode cX1_isCell 15 = .ok (.iload_n 1, 1) ∧ decode cX1_isCell 16 = .ok (.bipush 10, 2) ∧ decode cX1_isCell 18 = .ok (.idiv, 1) ∧ decode cX1_isCell 19 = .ok (.aload_n 0, 1) ∧ decode cX1_isCell 20 = .ok (.getfield 15, 3) ∧ decode cX1_isCell 23 = .ok (.if_icmp .ge 7, 3) ∧ decode cX1_isCell 26 = .ok (.iconst 1, 1) ∧ decode cX1_isCell 27 = .ok (.goto 4, 3) := by decide +kernel
theorem dX1_isCell_15 : decode cX1_isCell 15 = .ok (.iload_n 1, 1) := gdX1_isCell_15.1
theorem dX1_isCell_16 : decode cX1_isCell 16 = .ok (.bipush 10, 2) := gdX1_isCell_15.2.1
theorem dX1_isCell_18 : decode cX1_isCell 18 = .ok (.idiv, 1) := gdX1_isCell_15.2.2.1
theorem dX1_isCell_19 : decode cX1_isCell 19 = .ok (.aload_n 0, 1) := gdX1_isCell_15.2.2.2.1
theorem dX1_isCell_20 : decode cX1_isCell 20 = .ok (.getfield 15, 3) := gdX1_isCell_15.2.2.2.2.1
theorem dX1_isCell_23 : decode cX1_isCell 23 = .ok (.if_icmp .ge 7, 3) := gdX1_isCell_15.2.2.2.2.2.1
theorem dX1_isCell_26 : decode cX1_isCell 26 = .ok (.iconst 1, 1) := gdX1_isCell_15.2.2.2.2.2.2.1
theorem dX1_isCell_27 : decode cX1_isCell 27 = .ok (.goto 4, 3) := gdX1_isCell_15.2.2.2.2.2.2.2
theorem dX1_isCell_30 : decode cX1_isCell 30 = .ok (.iconst 0, 1) := by decide +kernel
theorem dX1_isCell_31 : decode cX1_isCell 31 = .ok (.ireturn, 1) := by decide +kernel
set_option maxRecDepth 20000 in
theorem gdX1_isMirror_0 : decode cX1_isMirror 0 = .ok (.aload_n 0, 1) ∧ decode cX1_isMirror 1 = .ok (.iload_n 1, 1) ∧ decode cX1_isMirror 2 = .ok (.invokevirtual 61, 3) ∧ decode cX1_isMirror 5 = .ok (.ifCond .eq 17, 3) ∧ decode cX1_isMirror 8 = .ok (.aload_n 0, 1) ∧ decode cX1_isMirror 9 = .ok (.getfield 21, 3) ∧ decode cX1_isMirror 12 = .ok (.iload_n 1, 1) ∧ decode cX1_isMirror 13 = .ok (.iaload, 1) := by decide +kernel
theorem dX1_isMirror_0 : decode cX1_isMirror 0 = .ok (.aload_n 0, 1) := gdX1_isMirror_0.1
theorem dX1_isMirror_1 : decode cX1_isMirror 1 = .ok (.iload_n 1, 1) := gdX1_isMirror_0.2.1
theorem dX1_isMirror_2 : decode cX1_isMirror 2 = .ok (.invokevirtual 61, 3) := gdX1_isMirror_0.2.2.1
theorem dX1_isMirror_5 : decode cX1_isMirror 5 = .ok (.ifCond .eq 17, 3) := gdX1_isMirror_0.2.2.2.1
theorem dX1_isMirror_8 : decode cX1_isMirror 8 = .ok (.aload_n 0, 1) := gdX1_isMirror_0.2.2.2.2.1
theorem dX1_isMirror_9 : decode cX1_isMirror 9 = .ok (.getfield 21, 3) := gdX1_isMirror_0.2.2.2.2.2.1
theorem dX1_isMirror_12 : decode cX1_isMirror 12 = .ok (.iload_n 1, 1) := gdX1_isMirror_0.2.2.2.2.2.2.1
theorem dX1_isMirror_13 : decode cX1_isMirror 13 = .ok (.iaload, 1) := gdX1_isMirror_0.2.2.2.2.2.2.2
set_option maxRecDepth 20000 in
theorem gdX1_isMirror_14 : decode cX1_isMirror 14 = .ok (.iconst 2, 1) ∧ decode cX1_isMirror 15 = .ok (.if_icmp .ne 7, 3) ∧ decode cX1_isMirror 18 = .ok (.iconst 1, 1) ∧ decode cX1_isMirror 19 = .ok (.goto 4, 3) ∧ decode cX1_isMirror 22 = .ok (.iconst 0, 1) ∧ decode cX1_isMirror 23 = .ok (.ireturn, 1) := by decide +kernel
theorem dX1_isMirror_14 : decode cX1_isMirror 14 = .ok (.iconst 2, 1) := gdX1_isMirror_14.1
theorem dX1_isMirror_15 : decode cX1_isMirror 15 = .ok (.if_icmp .ne 7, 3) := gdX1_isMirror_14.2.1
theorem dX1_isMirror_18 : decode cX1_isMirror 18 = .ok (.iconst 1, 1) := gdX1_isMirror_14.2.2.1
theorem dX1_isMirror_19 : decode cX1_isMirror 19 = .ok (.goto 4, 3) := gdX1_isMirror_14.2.2.2.1
theorem dX1_isMirror_22 : decode cX1_isMirror 22 = .ok (.iconst 0, 1) := gdX1_isMirror_14.2.2.2.2.1
theorem dX1_isMirror_23 : decode cX1_isMirror 23 = .ok (.ireturn, 1) := gdX1_isMirror_14.2.2.2.2.2
set_option maxRecDepth 20000 in
theorem gdX1_isNone_0 : decode cX1_isNone 0 = .ok (.aload_n 0, 1) ∧ decode cX1_isNone 1 = .ok (.getfield 9, 3) ∧ decode cX1_isNone 4 = .ok (.ifCond .ne 7, 3) ∧ decode cX1_isNone 7 = .ok (.iconst 1, 1) ∧ decode cX1_isNone 8 = .ok (.goto 4, 3) ∧ decode cX1_isNone 11 = .ok (.iconst 0, 1) ∧ decode cX1_isNone 12 = .ok (.ireturn, 1) := by decide +kernel
theorem dX1_isNone_0 : decode cX1_isNone 0 = .ok (.aload_n 0, 1) := gdX1_isNone_0.1
theorem dX1_isNone_1 : decode cX1_isNone 1 = .ok (.getfield 9, 3) := gdX1_isNone_0.2.1
theorem dX1_isNone_4 : decode cX1_isNone 4 = .ok (.ifCond .ne 7, 3) := gdX1_isNone_0.2.2.1
theorem dX1_isNone_7 : decode cX1_isNone 7 = .ok (.iconst 1, 1) := gdX1_isNone_0.2.2.2.1
theorem dX1_isNone_8 : decode cX1_isNone 8 = .ok (.goto 4, 3) := gdX1_isNone_0.2.2.2.2.1
theorem dX1_isNone_11 : decode cX1_isNone 11 = .ok (.iconst 0, 1) := gdX1_isNone_0.2.2.2.2.2.1
theorem dX1_isNone_12 : decode cX1_isNone 12 = .ok (.ireturn, 1) := gdX1_isNone_0.2.2.2.2.2.2
set_option maxRecDepth 20000 in
theorem gdX1_isOpen_0 : decode cX1_isOpen 0 = .ok (.aload_n 0, 1) ∧ decode cX1_isOpen 1 = .ok (.iload_n 1, 1) ∧ decode cX1_isOpen 2 = .ok (.invokevirtual 61, 3) ∧ decode cX1_isOpen 5 = .ok (.ifCond .eq 16, 3) ∧ decode cX1_isOpen 8 = .ok (.aload_n 0, 1) ∧ decode cX1_isOpen 9 = .ok (.getfield 21, 3) ∧ decode cX1_isOpen 12 = .ok (.iload_n 1, 1) ∧ decode cX1_isOpen 13 = .ok (.iaload, 1) := by decide +kernel
theorem dX1_isOpen_0 : decode cX1_isOpen 0 = .ok (.aload_n 0, 1) := gdX1_isOpen_0.1
theorem dX1_isOpen_1 : decode cX1_isOpen 1 = .ok (.iload_n 1, 1) := gdX1_isOpen_0.2.1
theorem dX1_isOpen_2 : decode cX1_isOpen 2 = .ok (.invokevirtual 61, 3) := gdX1_isOpen_0.2.2.1
theorem dX1_isOpen_5 : decode cX1_isOpen 5 = .ok (.ifCond .eq 16, 3) := gdX1_isOpen_0.2.2.2.1
theorem dX1_isOpen_8 : decode cX1_isOpen 8 = .ok (.aload_n 0, 1) := gdX1_isOpen_0.2.2.2.2.1
theorem dX1_isOpen_9 : decode cX1_isOpen 9 = .ok (.getfield 21, 3) := gdX1_isOpen_0.2.2.2.2.2.1
theorem dX1_isOpen_12 : decode cX1_isOpen 12 = .ok (.iload_n 1, 1) := gdX1_isOpen_0.2.2.2.2.2.2.1
theorem dX1_isOpen_13 : decode cX1_isOpen 13 = .ok (.iaload, 1) := gdX1_isOpen_0.2.2.2.2.2.2.2
set_option maxRecDepth 20000 in
theorem gdX1_isOpen_14 : decode cX1_isOpen 14 = .ok (.ifCond .ne 7, 3) ∧ decode cX1_isOpen 17 = .ok (.iconst 1, 1) ∧ decode cX1_isOpen 18 = .ok (.goto 4, 3) ∧ decode cX1_isOpen 21 = .ok (.iconst 0, 1) ∧ decode cX1_isOpen 22 = .ok (.ireturn, 1) := by decide +kernel
theorem dX1_isOpen_14 : decode cX1_isOpen 14 = .ok (.ifCond .ne 7, 3) := gdX1_isOpen_14.1
theorem dX1_isOpen_17 : decode cX1_isOpen 17 = .ok (.iconst 1, 1) := gdX1_isOpen_14.2.1
theorem dX1_isOpen_18 : decode cX1_isOpen 18 = .ok (.goto 4, 3) := gdX1_isOpen_14.2.2.1
theorem dX1_isOpen_21 : decode cX1_isOpen 21 = .ok (.iconst 0, 1) := gdX1_isOpen_14.2.2.2.1
theorem dX1_isOpen_22 : decode cX1_isOpen 22 = .ok (.ireturn, 1) := gdX1_isOpen_14.2.2.2.2
set_option maxRecDepth 20000 in
theorem gdX1_ownerOf_0 : decode cX1_ownerOf 0 = .ok (.aload_n 0, 1) ∧ decode cX1_ownerOf 1 = .ok (.iload_n 1, 1) ∧ decode cX1_ownerOf 2 = .ok (.invokevirtual 61, 3) ∧ decode cX1_ownerOf 5 = .ok (.ifCond .eq 24, 3) ∧ decode cX1_ownerOf 8 = .ok (.aload_n 0, 1) ∧ decode cX1_ownerOf 9 = .ok (.getfield 21, 3) ∧ decode cX1_ownerOf 12 = .ok (.iload_n 1, 1) ∧ decode cX1_ownerOf 13 = .ok (.iaload, 1) := by decide +kernel
theorem dX1_ownerOf_0 : decode cX1_ownerOf 0 = .ok (.aload_n 0, 1) := gdX1_ownerOf_0.1
theorem dX1_ownerOf_1 : decode cX1_ownerOf 1 = .ok (.iload_n 1, 1) := gdX1_ownerOf_0.2.1
theorem dX1_ownerOf_2 : decode cX1_ownerOf 2 = .ok (.invokevirtual 61, 3) := gdX1_ownerOf_0.2.2.1
theorem dX1_ownerOf_5 : decode cX1_ownerOf 5 = .ok (.ifCond .eq 24, 3) := gdX1_ownerOf_0.2.2.2.1
theorem dX1_ownerOf_8 : decode cX1_ownerOf 8 = .ok (.aload_n 0, 1) := gdX1_ownerOf_0.2.2.2.2.1
theorem dX1_ownerOf_9 : decode cX1_ownerOf 9 = .ok (.getfield 21, 3) := gdX1_ownerOf_0.2.2.2.2.2.1
theorem dX1_ownerOf_12 : decode cX1_ownerOf 12 = .ok (.iload_n 1, 1) := gdX1_ownerOf_0.2.2.2.2.2.2.1
theorem dX1_ownerOf_13 : decode cX1_ownerOf 13 = .ok (.iaload, 1) := gdX1_ownerOf_0.2.2.2.2.2.2.2
set_option maxRecDepth 20000 in
theorem gdX1_ownerOf_14 : decode cX1_ownerOf 14 = .ok (.iconst 3, 1) ∧ decode cX1_ownerOf 15 = .ok (.if_icmp .lt 14, 3) ∧ decode cX1_ownerOf 18 = .ok (.aload_n 0, 1) ∧ decode cX1_ownerOf 19 = .ok (.getfield 21, 3) ∧ decode cX1_ownerOf 22 = .ok (.iload_n 1, 1) ∧ decode cX1_ownerOf 23 = .ok (.iaload, 1) ∧ decode cX1_ownerOf 24 = .ok (.iconst 3, 1) ∧ decode cX1_ownerOf 25 = .ok (.isub, 1) := by decide +kernel
theorem dX1_ownerOf_14 : decode cX1_ownerOf 14 = .ok (.iconst 3, 1) := gdX1_ownerOf_14.1
theorem dX1_ownerOf_15 : decode cX1_ownerOf 15 = .ok (.if_icmp .lt 14, 3) := gdX1_ownerOf_14.2.1
theorem dX1_ownerOf_18 : decode cX1_ownerOf 18 = .ok (.aload_n 0, 1) := gdX1_ownerOf_14.2.2.1
theorem dX1_ownerOf_19 : decode cX1_ownerOf 19 = .ok (.getfield 21, 3) := gdX1_ownerOf_14.2.2.2.1
theorem dX1_ownerOf_22 : decode cX1_ownerOf 22 = .ok (.iload_n 1, 1) := gdX1_ownerOf_14.2.2.2.2.1
theorem dX1_ownerOf_23 : decode cX1_ownerOf 23 = .ok (.iaload, 1) := gdX1_ownerOf_14.2.2.2.2.2.1
theorem dX1_ownerOf_24 : decode cX1_ownerOf 24 = .ok (.iconst 3, 1) := gdX1_ownerOf_14.2.2.2.2.2.2.1
theorem dX1_ownerOf_25 : decode cX1_ownerOf 25 = .ok (.isub, 1) := gdX1_ownerOf_14.2.2.2.2.2.2.2
set_option maxRecDepth 20000 in
theorem gdX1_ownerOf_26 : decode cX1_ownerOf 26 = .ok (.goto 5, 3) ∧ decode cX1_ownerOf 29 = .ok (.bipush 6, 2) ∧ decode cX1_ownerOf 31 = .ok (.ireturn, 1) := by decide +kernel
theorem dX1_ownerOf_26 : decode cX1_ownerOf 26 = .ok (.goto 5, 3) := gdX1_ownerOf_26.1
theorem dX1_ownerOf_29 : decode cX1_ownerOf 29 = .ok (.bipush 6, 2) := gdX1_ownerOf_26.2.1
theorem dX1_ownerOf_31 : decode cX1_ownerOf 31 = .ok (.ireturn, 1) := gdX1_ownerOf_26.2.2
set_option maxRecDepth 20000 in
theorem gdX1_priceAt_0 : decode cX1_priceAt 0 = .ok (.aload_n 0, 1) ∧ decode cX1_priceAt 1 = .ok (.iload_n 1, 1) ∧ decode cX1_priceAt 2 = .ok (.invokevirtual 65, 3) ∧ decode cX1_priceAt 5 = .ok (.istore_n 2, 1) ∧ decode cX1_priceAt 6 = .ok (.iload_n 2, 1) ∧ decode cX1_priceAt 7 = .ok (.bipush 6, 2) ∧ decode cX1_priceAt 9 = .ok (.if_icmp .ne 7, 3) ∧ decode cX1_priceAt 12 = .ok (.iconst 0, 1) := by decide +kernel
theorem dX1_priceAt_0 : decode cX1_priceAt 0 = .ok (.aload_n 0, 1) := gdX1_priceAt_0.1
theorem dX1_priceAt_1 : decode cX1_priceAt 1 = .ok (.iload_n 1, 1) := gdX1_priceAt_0.2.1
theorem dX1_priceAt_2 : decode cX1_priceAt 2 = .ok (.invokevirtual 65, 3) := gdX1_priceAt_0.2.2.1
theorem dX1_priceAt_5 : decode cX1_priceAt 5 = .ok (.istore_n 2, 1) := gdX1_priceAt_0.2.2.2.1
theorem dX1_priceAt_6 : decode cX1_priceAt 6 = .ok (.iload_n 2, 1) := gdX1_priceAt_0.2.2.2.2.1
theorem dX1_priceAt_7 : decode cX1_priceAt 7 = .ok (.bipush 6, 2) := gdX1_priceAt_0.2.2.2.2.2.1
theorem dX1_priceAt_9 : decode cX1_priceAt 9 = .ok (.if_icmp .ne 7, 3) := gdX1_priceAt_0.2.2.2.2.2.2.1
theorem dX1_priceAt_12 : decode cX1_priceAt 12 = .ok (.iconst 0, 1) := gdX1_priceAt_0.2.2.2.2.2.2.2
set_option maxRecDepth 20000 in
theorem gdX1_priceAt_13 : decode cX1_priceAt 13 = .ok (.goto 9, 3) ∧ decode cX1_priceAt 16 = .ok (.aload_n 0, 1) ∧ decode cX1_priceAt 17 = .ok (.getfield 25, 3) ∧ decode cX1_priceAt 20 = .ok (.iload_n 2, 1) ∧ decode cX1_priceAt 21 = .ok (.iaload, 1) ∧ decode cX1_priceAt 22 = .ok (.ireturn, 1) := by decide +kernel
theorem dX1_priceAt_13 : decode cX1_priceAt 13 = .ok (.goto 9, 3) := gdX1_priceAt_13.1
theorem dX1_priceAt_16 : decode cX1_priceAt 16 = .ok (.aload_n 0, 1) := gdX1_priceAt_13.2.1
theorem dX1_priceAt_17 : decode cX1_priceAt 17 = .ok (.getfield 25, 3) := gdX1_priceAt_13.2.2.1
theorem dX1_priceAt_20 : decode cX1_priceAt 20 = .ok (.iload_n 2, 1) := gdX1_priceAt_13.2.2.2.1
theorem dX1_priceAt_21 : decode cX1_priceAt 21 = .ok (.iaload, 1) := gdX1_priceAt_13.2.2.2.2.1
theorem dX1_priceAt_22 : decode cX1_priceAt 22 = .ok (.ireturn, 1) := gdX1_priceAt_13.2.2.2.2.2
theorem jX1_isCell_X1 : ∀ w ∈ u_ws RX1 TX1 12, w ∈ wsX1_isCell := fun w h => List.mem_cons_of_mem _ (List.mem_append_right _ h)
theorem jX1_isMirror_X1 : ∀ w ∈ u_ws RX1 TX1 12, w ∈ wsX1_isMirror := fun w h => List.mem_cons_of_mem _ (List.mem_append_right _ h)
theorem jX1_isNone_X1 : ∀ w ∈ u_ws RX1 TX1 12, w ∈ wsX1_isNone := fun w h => List.mem_cons_of_mem _ (List.mem_append_right _ h)
theorem jX1_isOpen_X1 : ∀ w ∈ u_ws RX1 TX1 12, w ∈ wsX1_isOpen := fun w h => List.mem_cons_of_mem _ (List.mem_append_right _ h)
theorem jX1_ownerOf_X1 : ∀ w ∈ u_ws RX1 TX1 12, w ∈ wsX1_ownerOf := fun w h => List.mem_cons_of_mem _ (List.mem_append_right _ h)
theorem jX1_priceAt_X1 : ∀ w ∈ u_ws RX1 TX1 12, w ∈ wsX1_priceAt := fun w h => List.mem_cons_of_mem _ (List.mem_append_right _ h)
theorem hdV_X1_isCell : yX1_isCell.cls = RX1 ∧ yX1_isCell.cls ≠ "java/lang/invoke/MethodHandle" ∧ yX1_isCell.cls ≠ "java/lang/invoke/VarHandle" ∧ (parseMethodDescriptor yX1_isCell.desc).map (fun d => d.parameters.length) = some 1 := by decide +kernel
theorem hdV_X1_ownerOf : yX1_ownerOf.cls = RX1 ∧ yX1_ownerOf.cls ≠ "java/lang/invoke/MethodHandle" ∧ yX1_ownerOf.cls ≠ "java/lang/invoke/VarHandle" ∧ (parseMethodDescriptor yX1_ownerOf.desc).map (fun d => d.parameters.length) = some 1 := by decide +kernel
set_option maxHeartbeats 4000000 in
set_option maxRecDepth 100000 in
theorem s_X1_isNone (l : Launch) (D : va_G) (cI cZ cC cS : ClassId) (sq : Nat → Nat) (sz : Nat) (ct : Nat) (cw : Int32) (ch : Int32) (cp : Int32) (aCells : Nat) (aPrices : Nat) (aFree : Nat) (aPlaces : Nat) (aHomes : Nat) (aManners : Nat) (aGone : Nat) (aPaid : Nat) (aBlinks : Nat) : mI l yX1_isNone wsX1_isNone 0 0 D (tyW cI cZ cC cS) sq [(ct, .inr (1, [.int cw, .int ch, .int cp, .ref aCells, .ref aPrices, .ref aFree, .ref aPlaces, .ref aHomes, .ref aManners, .ref aGone, .ref aPaid, .ref aBlinks]))] sz [.ref ct] (fun r w => ((cw.toInt = 0) ∧ r = 1 ∧ w = [(ct, .inr (1, [.int cw, .int ch, .int cp, .ref aCells, .ref aPrices, .ref aFree, .ref aPlaces, .ref aHomes, .ref aManners, .ref aGone, .ref aPaid, .ref aBlinks]))]) ∨ ((¬ cw.toInt = 0) ∧ r = 0 ∧ w = [(ct, .inr (1, [.int cw, .int ch, .int cp, .ref aCells, .ref aPrices, .ref aFree, .ref aPlaces, .ref aHomes, .ref aManners, .ref aGone, .ref aPaid, .ref aBlinks]))])) := by
  refine b_metI (cc := cX1_isNone) (maxL := 1) (ret := (some .boolean)) (by decide) rfl (Nat.le_of_ble_eq_true rfl) ?_
  intro p e s m below meth c ls A H X hsz hP hK hT hD hA hS hl
  have S : CallFix p m c cX1_isNone 1 s ([.ref ct] : List Value).toArray wsX1_isNone RX1 := X.1
  have hl : lv_has ls 1 [(0, .ref ct)] := hl
  have iX1 := jX1_isNone_X1
  refine lv_aload_n S.1 S.2.1 dX1_isNone_0 rfl (lv_at hl 0 rfl) ?_
  refine b_get (v := .int cw) S iX1 hK hP 0 rfl rfl 0 (by decide) (by decide +kernel) rfl dX1_isNone_1 ?_
  refine lv_if_ne (tgt := 11) S.1 S.2.1 dX1_isNone_4 (by decide) (fun c_1 => ?_) (fun c_1 => ?_)
  · rw [eq2 (a := cw) (b := 0) (A := cw.toInt) (B := 0) rfl rfl] at c_1
    refine lv_iconst (v := (0)) S.1 S.2.1 dX1_isNone_11 (by decide) ?_
    exact b_zret S.1 S.2.1 X.2.1 X.2.2.1 rfl hP hD hS (Or.inr (⟨(by first | with_reducible assumption | decide | (and_intros <;> first | with_reducible assumption | (intros; refine Int.le_antisymm ?_ ?_ <;> omega) | omega) | assumption | (rw [show Int32.toInt 0 = 0 from rfl]; omega)), rfl, rfl⟩)) dX1_isNone_12
  · rw [eq2 (a := cw) (b := 0) (A := cw.toInt) (B := 0) rfl rfl] at c_1
    refine lv_iconst (v := (1)) S.1 S.2.1 dX1_isNone_7 (by decide) ?_
    refine lv_goto (tgt := 12) S.1 S.2.1 dX1_isNone_8 (by decide) ?_
    exact b_zret S.1 S.2.1 X.2.1 X.2.2.1 rfl hP hD hS (Or.inl ⟨(by first | with_reducible assumption | decide | (and_intros <;> first | with_reducible assumption | (intros; refine Int.le_antisymm ?_ ?_ <;> omega) | omega) | assumption | (rw [show Int32.toInt 0 = 0 from rfl]; omega)), rfl, rfl⟩) dX1_isNone_12
set_option maxHeartbeats 4000000 in
set_option maxRecDepth 100000 in
theorem s_X1_isCell (l : Launch) (D : va_G) (cI cZ cC cS : ClassId) (sq : Nat → Nat) (sz : Nat) (ct : Nat) (k : Int32) (cw : Int32) (ch : Int32) (cp : Int32) (aCells : Nat) (aPrices : Nat) (aFree : Nat) (aPlaces : Nat) (aHomes : Nat) (aManners : Nat) (aGone : Nat) (aPaid : Nat) (aBlinks : Nat) (hw : 0 ≤ cw.toInt ∧ cw.toInt ≤ 10) (hh : 0 ≤ ch.toInt ∧ ch.toInt ≤ 8) : mI l yX1_isCell wsX1_isCell 0 0 D (tyW cI cZ cC cS) sq [(ct, .inr (1, [.int cw, .int ch, .int cp, .ref aCells, .ref aPrices, .ref aFree, .ref aPlaces, .ref aHomes, .ref aManners, .ref aGone, .ref aPaid, .ref aBlinks]))] sz [.ref ct, .int k] (fun r w => ((0 ≤ k.toInt ∧ k.toInt < 80) ∧ (0 ≤ k.toInt ∧ k.toInt % 10 < cw.toInt ∧ k.toInt / 10 < ch.toInt) ∧ r = 1 ∧ w = [(ct, .inr (1, [.int cw, .int ch, .int cp, .ref aCells, .ref aPrices, .ref aFree, .ref aPlaces, .ref aHomes, .ref aManners, .ref aGone, .ref aPaid, .ref aBlinks]))]) ∨ ((¬ (0 ≤ k.toInt ∧ k.toInt % 10 < cw.toInt ∧ k.toInt / 10 < ch.toInt)) ∧ r = 0 ∧ w = [(ct, .inr (1, [.int cw, .int ch, .int cp, .ref aCells, .ref aPrices, .ref aFree, .ref aPlaces, .ref aHomes, .ref aManners, .ref aGone, .ref aPaid, .ref aBlinks]))])) := by
  refine b_metI (cc := cX1_isCell) (maxL := 2) (ret := (some .boolean)) (by decide) rfl (Nat.le_of_ble_eq_true rfl) ?_
  intro p e s m below meth c ls A H X hsz hP hK hT hD hA hS hl
  have S : CallFix p m c cX1_isCell 2 s ([.ref ct, .int k] : List Value).toArray wsX1_isCell RX1 := X.1
  have hl : lv_has ls 2 [(0, .ref ct), (1, .int k)] := hl
  have iX1 := jX1_isCell_X1
  refine lv_iload_n S.1 S.2.1 dX1_isCell_0 rfl (lv_at hl 1 rfl) ?_
  refine lv_if_lt (tgt := 30) S.1 S.2.1 dX1_isCell_1 (by decide) (fun c_1 => ?_) (fun c_1 => ?_)
  · rw [lt2 (a := k) (b := 0) (A := k.toInt) (B := 0) rfl rfl] at c_1
    refine lv_iconst (v := (0)) S.1 S.2.1 dX1_isCell_30 (by decide) ?_
    exact b_zret S.1 S.2.1 X.2.1 X.2.2.1 rfl hP hD hS (Or.inr (⟨(by first | with_reducible assumption | decide | (and_intros <;> first | with_reducible assumption | (intros; refine Int.le_antisymm ?_ ?_ <;> omega) | omega) | assumption | (rw [show Int32.toInt 0 = 0 from rfl]; omega)), rfl, rfl⟩)) dX1_isCell_31
  · rw [lt2 (a := k) (b := 0) (A := k.toInt) (B := 0) rfl rfl] at c_1
    refine lv_iload_n S.1 S.2.1 dX1_isCell_4 rfl (lv_at hl 1 rfl) ?_
    refine lv_bipush (v := (10)) S.1 S.2.1 dX1_isCell_5 (by decide) ?_
    refine lv_irem S.1 S.2.1 dX1_isCell_7 (by decide) ?_
    refine lv_topi (fun x_2 ex_2 => ?_)
    have tx_2 : x_2.toInt = k.toInt % 10 := remI (A := k.toInt) (B := 10) ex_2 rfl rfl (by  omega) (by decide)
    refine lv_aload_n S.1 S.2.1 dX1_isCell_8 rfl (lv_at hl 0 rfl) ?_
    refine b_get (v := .int cw) S iX1 hK hP 0 rfl rfl 0 (by decide) (by decide +kernel) rfl dX1_isCell_9 ?_
    refine lv_icmp_ge (tgt := 30) S.1 S.2.1 dX1_isCell_12 (by decide) (fun c_3 => ?_) (fun c_3 => ?_)
    · rw [le2 (a := cw) (b := x_2) (A := cw.toInt) (B := x_2.toInt) rfl rfl] at c_3
      refine lv_iconst (v := (0)) S.1 S.2.1 dX1_isCell_30 (by decide) ?_
      exact b_zret S.1 S.2.1 X.2.1 X.2.2.1 rfl hP hD hS (Or.inr (⟨(by first | with_reducible assumption | decide | (and_intros <;> first | with_reducible assumption | (intros; refine Int.le_antisymm ?_ ?_ <;> omega) | omega) | assumption | (rw [show Int32.toInt 0 = 0 from rfl]; omega)), rfl, rfl⟩)) dX1_isCell_31
    · rw [le2 (a := cw) (b := x_2) (A := cw.toInt) (B := x_2.toInt) rfl rfl] at c_3
      refine lv_iload_n S.1 S.2.1 dX1_isCell_15 rfl (lv_at hl 1 rfl) ?_
      refine lv_bipush (v := (10)) S.1 S.2.1 dX1_isCell_16 (by decide) ?_
      refine lv_idiv S.1 S.2.1 dX1_isCell_18 (by decide) ?_
      refine lv_topi (fun x_4 ex_4 => ?_)
      have tx_4 : x_4.toInt = k.toInt / 10 := divI (A := k.toInt) (B := 10) ex_4 rfl rfl (by  omega) (by decide)
      refine lv_aload_n S.1 S.2.1 dX1_isCell_19 rfl (lv_at hl 0 rfl) ?_
      refine b_get (v := .int ch) S iX1 hK hP 0 rfl rfl 1 (by decide) (by decide +kernel) rfl dX1_isCell_20 ?_
      refine lv_icmp_ge (tgt := 30) S.1 S.2.1 dX1_isCell_23 (by decide) (fun c_5 => ?_) (fun c_5 => ?_)
      · rw [le2 (a := ch) (b := x_4) (A := ch.toInt) (B := x_4.toInt) rfl rfl] at c_5
        refine lv_iconst (v := (0)) S.1 S.2.1 dX1_isCell_30 (by decide) ?_
        exact b_zret S.1 S.2.1 X.2.1 X.2.2.1 rfl hP hD hS (Or.inr (⟨(by first | with_reducible assumption | decide | (and_intros <;> first | with_reducible assumption | (intros; refine Int.le_antisymm ?_ ?_ <;> omega) | omega) | assumption | (rw [show Int32.toInt 0 = 0 from rfl]; omega)), rfl, rfl⟩)) dX1_isCell_31
      · rw [le2 (a := ch) (b := x_4) (A := ch.toInt) (B := x_4.toInt) rfl rfl] at c_5
        refine lv_iconst (v := (1)) S.1 S.2.1 dX1_isCell_26 (by decide) ?_
        refine lv_goto (tgt := 31) S.1 S.2.1 dX1_isCell_27 (by decide) ?_
        exact b_zret S.1 S.2.1 X.2.1 X.2.2.1 rfl hP hD hS (Or.inl ⟨(by first | with_reducible assumption | decide | (and_intros <;> first | with_reducible assumption | (intros; refine Int.le_antisymm ?_ ?_ <;> omega) | omega) | assumption | (rw [show Int32.toInt 0 = 0 from rfl]; omega)), (by first | with_reducible assumption | decide | (and_intros <;> first | with_reducible assumption | (intros; refine Int.le_antisymm ?_ ?_ <;> omega) | omega) | assumption | (rw [show Int32.toInt 0 = 0 from rfl]; omega)), rfl, rfl⟩) dX1_isCell_31
set_option maxHeartbeats 4000000 in
set_option maxRecDepth 100000 in
theorem s_X1_isOpen (l : Launch) (D : va_G) (cI cZ cC cS : ClassId) (sq : Nat → Nat) (sz : Nat) (ct : Nat) (aCells : Nat) (k : Int32) (cw : Int32) (ch : Int32) (cp : Int32) (aPrices : Nat) (aFree : Nat) (aPlaces : Nat) (aHomes : Nat) (aManners : Nat) (aGone : Nat) (aPaid : Nat) (aBlinks : Nat) (fc : Nat → Int32) (hrg_fc : rng fc 80 (-1) (8)) (hw : 0 ≤ cw.toInt ∧ cw.toInt ≤ 10) (hh : 0 ≤ ch.toInt ∧ ch.toInt ≤ 8) : mI l yX1_isOpen wsX1_isOpen 1 40 D (tyW cI cZ cC cS) sq [(ct, .inr (1, [.int cw, .int ch, .int cp, .ref aCells, .ref aPrices, .ref aFree, .ref aPlaces, .ref aHomes, .ref aManners, .ref aGone, .ref aPaid, .ref aBlinks])), (aCells, .inl (cI, 80, .inl fc))] sz [.ref ct, .int k] (fun r w => ((0 ≤ k.toInt ∧ k.toInt < 80) ∧ (0 ≤ k.toInt ∧ k.toInt % 10 < cw.toInt ∧ k.toInt / 10 < ch.toInt ∧ (fc k.toInt.toNat).toInt = 0) ∧ r = 1 ∧ w = [(ct, .inr (1, [.int cw, .int ch, .int cp, .ref aCells, .ref aPrices, .ref aFree, .ref aPlaces, .ref aHomes, .ref aManners, .ref aGone, .ref aPaid, .ref aBlinks])), (aCells, .inl (cI, 80, .inl fc))]) ∨ ((¬ (0 ≤ k.toInt ∧ k.toInt % 10 < cw.toInt ∧ k.toInt / 10 < ch.toInt ∧ (fc k.toInt.toNat).toInt = 0)) ∧ r = 0 ∧ w = [(ct, .inr (1, [.int cw, .int ch, .int cp, .ref aCells, .ref aPrices, .ref aFree, .ref aPlaces, .ref aHomes, .ref aManners, .ref aGone, .ref aPaid, .ref aBlinks])), (aCells, .inl (cI, 80, .inl fc))])) := by
  refine b_metI (cc := cX1_isOpen) (maxL := 2) (ret := (some .boolean)) (by decide) rfl (Nat.le_of_ble_eq_true rfl) ?_
  intro p e s m below meth c ls A H X hsz hP hK hT hD hA hS hl
  have S : CallFix p m c cX1_isOpen 2 s ([.ref ct, .int k] : List Value).toArray wsX1_isOpen RX1 := X.1
  have hl : lv_has ls 2 [(0, .ref ct), (1, .int k)] := hl
  have iX1 := jX1_isOpen_X1
  refine lv_aload_n S.1 S.2.1 dX1_isOpen_0 rfl (lv_at hl 0 rfl) ?_
  refine lv_iload_n S.1 S.2.1 dX1_isOpen_1 rfl (lv_at hl 1 rfl) ?_
  refine b_ai (wr := [(aCells, .inl (cI, 80, .inl fc))]) (b_runV (q0 := 0) (ci := 1) (As := [.int k]) (s_X1_isCell l D cI cZ cC cS sq H.size ct k cw ch cp aCells aPrices aFree aPlaces aHomes aManners aGone aPaid aBlinks (by first | with_reducible assumption | decide | (and_intros <;> first | with_reducible assumption | (intros; refine Int.le_antisymm ?_ ?_ <;> omega) | omega) | assumption | (rw [show Int32.toInt 0 = 0 from rfl]; omega)) (by first | with_reducible assumption | decide | (and_intros <;> first | with_reducible assumption | (intros; refine Int.le_antisymm ?_ ?_ <;> omega) | omega) | assumption | (rw [show Int32.toInt 0 = 0 from rfl]; omega))) S gX1_isOpen_X1_isCell rfl hdV_X1_isCell ⟨Nat.le_of_ble_eq_true rfl, Nat.le_of_ble_eq_true rfl⟩ ⟨Nat.le_of_ble_eq_true rfl, Nat.le_of_ble_eq_true rfl⟩ hK hT hS hA hP hD rfl rfl [0] rfl (by decide) rfl hl.1 rfl (Nat.le_of_ble_eq_true rfl) dX1_isOpen_2) hP hD hS hA [0] [1] rfl rfl (by decide) (by decide) (fun r_1 w_2 H locs hw_3 hP hD hS => ?_)
  rcases hw_3 with ⟨hf_4, hf_5, rfl, rfl⟩ | ⟨hf_6, rfl, rfl⟩
  · have hP : va_P D vwCl [(aCells, .inl (cI, 80, .inl fc)), (ct, .inr (1, [.int cw, .int ch, .int cp, .ref aCells, .ref aPrices, .ref aFree, .ref aPlaces, .ref aHomes, .ref aManners, .ref aGone, .ref aPaid, .ref aBlinks]))] H := hP
    have hD : va_D A [(aCells, .inl (cI, 80, .inl fc)), (ct, .inr (1, [.int cw, .int ch, .int cp, .ref aCells, .ref aPrices, .ref aFree, .ref aPlaces, .ref aHomes, .ref aManners, .ref aGone, .ref aPaid, .ref aBlinks]))] := hD
    refine lv_if_eq (tgt := 21) S.1 S.2.1 dX1_isOpen_5 (by decide) (fun c_7 => absurd c_7 (by decide)) (fun c_7 => ?_)
    refine lv_aload_n S.1 S.2.1 dX1_isOpen_8 rfl (lv_at hl 0 rfl) ?_
    refine b_get (v := .ref aCells) S iX1 hK hP 1 rfl rfl 3 (by decide) (by decide +kernel) rfl dX1_isOpen_9 ?_
    refine lv_iload_n S.1 S.2.1 dX1_isOpen_12 rfl (lv_at hl 1 rfl) ?_
    have hin_8 : vp_in k 80 := (in_of (n := 80) (by  omega) (by  omega))
    refine va_iald S.1 S.2.1 hK.1 hP 0 0 rfl rfl hin_8 dX1_isOpen_13 ?_
    refine lv_topi (fun x_9 ex_9 => ?_)
    have tx_9 := rng_get (x := x_9) (show rng fc 80 (-1) (8) by assumption) hin_8 ex_9
    have bx_9 : x_9.toInt = (fc k.toInt.toNat).toInt := by rw [ex_9]; rfl
    refine lv_if_ne (tgt := 21) S.1 S.2.1 dX1_isOpen_14 (by decide) (fun c_10 => ?_) (fun c_10 => ?_)
    · rw [eq2 (a := x_9) (b := 0) (A := x_9.toInt) (B := 0) rfl rfl] at c_10
      refine lv_iconst (v := (0)) S.1 S.2.1 dX1_isOpen_21 (by decide) ?_
      have hP := hP.sub (ws' := [(ct, .inr (1, [.int cw, .int ch, .int cp, .ref aCells, .ref aPrices, .ref aFree, .ref aPlaces, .ref aHomes, .ref aManners, .ref aGone, .ref aPaid, .ref aBlinks])), (aCells, .inl (cI, 80, .inl fc))]) [1, 0] rfl
      have hD := hD.sub (ws' := [(ct, .inr (1, [.int cw, .int ch, .int cp, .ref aCells, .ref aPrices, .ref aFree, .ref aPlaces, .ref aHomes, .ref aManners, .ref aGone, .ref aPaid, .ref aBlinks])), (aCells, .inl (cI, 80, .inl fc))]) [1, 0] (by decide) rfl
      exact b_zret S.1 S.2.1 X.2.1 X.2.2.1 rfl hP hD hS (Or.inr (⟨(by first | with_reducible assumption | decide | (and_intros <;> first | with_reducible assumption | (intros; refine Int.le_antisymm ?_ ?_ <;> omega) | omega) | assumption | (rw [show Int32.toInt 0 = 0 from rfl]; omega)), rfl, rfl⟩)) dX1_isOpen_22
    · rw [eq2 (a := x_9) (b := 0) (A := x_9.toInt) (B := 0) rfl rfl] at c_10
      refine lv_iconst (v := (1)) S.1 S.2.1 dX1_isOpen_17 (by decide) ?_
      refine lv_goto (tgt := 22) S.1 S.2.1 dX1_isOpen_18 (by decide) ?_
      have hP := hP.sub (ws' := [(ct, .inr (1, [.int cw, .int ch, .int cp, .ref aCells, .ref aPrices, .ref aFree, .ref aPlaces, .ref aHomes, .ref aManners, .ref aGone, .ref aPaid, .ref aBlinks])), (aCells, .inl (cI, 80, .inl fc))]) [1, 0] rfl
      have hD := hD.sub (ws' := [(ct, .inr (1, [.int cw, .int ch, .int cp, .ref aCells, .ref aPrices, .ref aFree, .ref aPlaces, .ref aHomes, .ref aManners, .ref aGone, .ref aPaid, .ref aBlinks])), (aCells, .inl (cI, 80, .inl fc))]) [1, 0] (by decide) rfl
      exact b_zret S.1 S.2.1 X.2.1 X.2.2.1 rfl hP hD hS (Or.inl ⟨(by first | with_reducible assumption | decide | (and_intros <;> first | with_reducible assumption | (intros; refine Int.le_antisymm ?_ ?_ <;> omega) | omega) | assumption | (rw [show Int32.toInt 0 = 0 from rfl]; omega)), (by first | with_reducible assumption | decide | (and_intros <;> first | with_reducible assumption | (intros; refine Int.le_antisymm ?_ ?_ <;> omega) | omega) | assumption | (rw [show Int32.toInt 0 = 0 from rfl]; omega)), rfl, rfl⟩) dX1_isOpen_22
  · have hP : va_P D vwCl [(aCells, .inl (cI, 80, .inl fc)), (ct, .inr (1, [.int cw, .int ch, .int cp, .ref aCells, .ref aPrices, .ref aFree, .ref aPlaces, .ref aHomes, .ref aManners, .ref aGone, .ref aPaid, .ref aBlinks]))] H := hP
    have hD : va_D A [(aCells, .inl (cI, 80, .inl fc)), (ct, .inr (1, [.int cw, .int ch, .int cp, .ref aCells, .ref aPrices, .ref aFree, .ref aPlaces, .ref aHomes, .ref aManners, .ref aGone, .ref aPaid, .ref aBlinks]))] := hD
    refine lv_if_eq (tgt := 21) S.1 S.2.1 dX1_isOpen_5 (by decide) (fun c_11 => ?_) (fun c_11 => absurd c_11 (by decide))
    refine lv_iconst (v := (0)) S.1 S.2.1 dX1_isOpen_21 (by decide) ?_
    have hP := hP.sub (ws' := [(ct, .inr (1, [.int cw, .int ch, .int cp, .ref aCells, .ref aPrices, .ref aFree, .ref aPlaces, .ref aHomes, .ref aManners, .ref aGone, .ref aPaid, .ref aBlinks])), (aCells, .inl (cI, 80, .inl fc))]) [1, 0] rfl
    have hD := hD.sub (ws' := [(ct, .inr (1, [.int cw, .int ch, .int cp, .ref aCells, .ref aPrices, .ref aFree, .ref aPlaces, .ref aHomes, .ref aManners, .ref aGone, .ref aPaid, .ref aBlinks])), (aCells, .inl (cI, 80, .inl fc))]) [1, 0] (by decide) rfl
    exact b_zret S.1 S.2.1 X.2.1 X.2.2.1 rfl hP hD hS (Or.inr (⟨(by first | with_reducible assumption | decide | (and_intros <;> first | with_reducible assumption | (intros; refine Int.le_antisymm ?_ ?_ <;> omega) | omega) | assumption | (rw [show Int32.toInt 0 = 0 from rfl]; omega)), rfl, rfl⟩)) dX1_isOpen_22
set_option maxHeartbeats 4000000 in
set_option maxRecDepth 100000 in
theorem s_X1_isMirror (l : Launch) (D : va_G) (cI cZ cC cS : ClassId) (sq : Nat → Nat) (sz : Nat) (ct : Nat) (aCells : Nat) (k : Int32) (cw : Int32) (ch : Int32) (cp : Int32) (aPrices : Nat) (aFree : Nat) (aPlaces : Nat) (aHomes : Nat) (aManners : Nat) (aGone : Nat) (aPaid : Nat) (aBlinks : Nat) (fc : Nat → Int32) (hrg_fc : rng fc 80 (-1) (8)) (hw : 0 ≤ cw.toInt ∧ cw.toInt ≤ 10) (hh : 0 ≤ ch.toInt ∧ ch.toInt ≤ 8) : mI l yX1_isMirror wsX1_isMirror 1 40 D (tyW cI cZ cC cS) sq [(ct, .inr (1, [.int cw, .int ch, .int cp, .ref aCells, .ref aPrices, .ref aFree, .ref aPlaces, .ref aHomes, .ref aManners, .ref aGone, .ref aPaid, .ref aBlinks])), (aCells, .inl (cI, 80, .inl fc))] sz [.ref ct, .int k] (fun r w => ((0 ≤ k.toInt ∧ k.toInt < 80) ∧ (0 ≤ k.toInt ∧ k.toInt % 10 < cw.toInt ∧ k.toInt / 10 < ch.toInt ∧ (fc k.toInt.toNat).toInt = 2) ∧ r = 1 ∧ w = [(ct, .inr (1, [.int cw, .int ch, .int cp, .ref aCells, .ref aPrices, .ref aFree, .ref aPlaces, .ref aHomes, .ref aManners, .ref aGone, .ref aPaid, .ref aBlinks])), (aCells, .inl (cI, 80, .inl fc))]) ∨ ((¬ (0 ≤ k.toInt ∧ k.toInt % 10 < cw.toInt ∧ k.toInt / 10 < ch.toInt ∧ (fc k.toInt.toNat).toInt = 2)) ∧ r = 0 ∧ w = [(ct, .inr (1, [.int cw, .int ch, .int cp, .ref aCells, .ref aPrices, .ref aFree, .ref aPlaces, .ref aHomes, .ref aManners, .ref aGone, .ref aPaid, .ref aBlinks])), (aCells, .inl (cI, 80, .inl fc))])) := by
  refine b_metI (cc := cX1_isMirror) (maxL := 2) (ret := (some .boolean)) (by decide) rfl (Nat.le_of_ble_eq_true rfl) ?_
  intro p e s m below meth c ls A H X hsz hP hK hT hD hA hS hl
  have S : CallFix p m c cX1_isMirror 2 s ([.ref ct, .int k] : List Value).toArray wsX1_isMirror RX1 := X.1
  have hl : lv_has ls 2 [(0, .ref ct), (1, .int k)] := hl
  have iX1 := jX1_isMirror_X1
  refine lv_aload_n S.1 S.2.1 dX1_isMirror_0 rfl (lv_at hl 0 rfl) ?_
  refine lv_iload_n S.1 S.2.1 dX1_isMirror_1 rfl (lv_at hl 1 rfl) ?_
  refine b_ai (wr := [(aCells, .inl (cI, 80, .inl fc))]) (b_runV (q0 := 0) (ci := 1) (As := [.int k]) (s_X1_isCell l D cI cZ cC cS sq H.size ct k cw ch cp aCells aPrices aFree aPlaces aHomes aManners aGone aPaid aBlinks (by first | with_reducible assumption | decide | (and_intros <;> first | with_reducible assumption | (intros; refine Int.le_antisymm ?_ ?_ <;> omega) | omega) | assumption | (rw [show Int32.toInt 0 = 0 from rfl]; omega)) (by first | with_reducible assumption | decide | (and_intros <;> first | with_reducible assumption | (intros; refine Int.le_antisymm ?_ ?_ <;> omega) | omega) | assumption | (rw [show Int32.toInt 0 = 0 from rfl]; omega))) S gX1_isMirror_X1_isCell rfl hdV_X1_isCell ⟨Nat.le_of_ble_eq_true rfl, Nat.le_of_ble_eq_true rfl⟩ ⟨Nat.le_of_ble_eq_true rfl, Nat.le_of_ble_eq_true rfl⟩ hK hT hS hA hP hD rfl rfl [0] rfl (by decide) rfl hl.1 rfl (Nat.le_of_ble_eq_true rfl) dX1_isMirror_2) hP hD hS hA [0] [1] rfl rfl (by decide) (by decide) (fun r_1 w_2 H locs hw_3 hP hD hS => ?_)
  rcases hw_3 with ⟨hf_4, hf_5, rfl, rfl⟩ | ⟨hf_6, rfl, rfl⟩
  · have hP : va_P D vwCl [(aCells, .inl (cI, 80, .inl fc)), (ct, .inr (1, [.int cw, .int ch, .int cp, .ref aCells, .ref aPrices, .ref aFree, .ref aPlaces, .ref aHomes, .ref aManners, .ref aGone, .ref aPaid, .ref aBlinks]))] H := hP
    have hD : va_D A [(aCells, .inl (cI, 80, .inl fc)), (ct, .inr (1, [.int cw, .int ch, .int cp, .ref aCells, .ref aPrices, .ref aFree, .ref aPlaces, .ref aHomes, .ref aManners, .ref aGone, .ref aPaid, .ref aBlinks]))] := hD
    refine lv_if_eq (tgt := 22) S.1 S.2.1 dX1_isMirror_5 (by decide) (fun c_7 => absurd c_7 (by decide)) (fun c_7 => ?_)
    refine lv_aload_n S.1 S.2.1 dX1_isMirror_8 rfl (lv_at hl 0 rfl) ?_
    refine b_get (v := .ref aCells) S iX1 hK hP 1 rfl rfl 3 (by decide) (by decide +kernel) rfl dX1_isMirror_9 ?_
    refine lv_iload_n S.1 S.2.1 dX1_isMirror_12 rfl (lv_at hl 1 rfl) ?_
    have hin_8 : vp_in k 80 := (in_of (n := 80) (by  omega) (by  omega))
    refine va_iald S.1 S.2.1 hK.1 hP 0 0 rfl rfl hin_8 dX1_isMirror_13 ?_
    refine lv_topi (fun x_9 ex_9 => ?_)
    have tx_9 := rng_get (x := x_9) (show rng fc 80 (-1) (8) by assumption) hin_8 ex_9
    have bx_9 : x_9.toInt = (fc k.toInt.toNat).toInt := by rw [ex_9]; rfl
    refine lv_iconst (v := (2)) S.1 S.2.1 dX1_isMirror_14 (by decide) ?_
    refine lv_icmp_ne (tgt := 22) S.1 S.2.1 dX1_isMirror_15 (by decide) (fun c_10 => ?_) (fun c_10 => ?_)
    · rw [eq2 (a := x_9) (b := 2) (A := x_9.toInt) (B := 2) rfl rfl] at c_10
      refine lv_iconst (v := (0)) S.1 S.2.1 dX1_isMirror_22 (by decide) ?_
      have hP := hP.sub (ws' := [(ct, .inr (1, [.int cw, .int ch, .int cp, .ref aCells, .ref aPrices, .ref aFree, .ref aPlaces, .ref aHomes, .ref aManners, .ref aGone, .ref aPaid, .ref aBlinks])), (aCells, .inl (cI, 80, .inl fc))]) [1, 0] rfl
      have hD := hD.sub (ws' := [(ct, .inr (1, [.int cw, .int ch, .int cp, .ref aCells, .ref aPrices, .ref aFree, .ref aPlaces, .ref aHomes, .ref aManners, .ref aGone, .ref aPaid, .ref aBlinks])), (aCells, .inl (cI, 80, .inl fc))]) [1, 0] (by decide) rfl
      exact b_zret S.1 S.2.1 X.2.1 X.2.2.1 rfl hP hD hS (Or.inr (⟨(by first | with_reducible assumption | decide | (and_intros <;> first | with_reducible assumption | (intros; refine Int.le_antisymm ?_ ?_ <;> omega) | omega) | assumption | (rw [show Int32.toInt 0 = 0 from rfl]; omega)), rfl, rfl⟩)) dX1_isMirror_23
    · rw [eq2 (a := x_9) (b := 2) (A := x_9.toInt) (B := 2) rfl rfl] at c_10
      refine lv_iconst (v := (1)) S.1 S.2.1 dX1_isMirror_18 (by decide) ?_
      refine lv_goto (tgt := 23) S.1 S.2.1 dX1_isMirror_19 (by decide) ?_
      have hP := hP.sub (ws' := [(ct, .inr (1, [.int cw, .int ch, .int cp, .ref aCells, .ref aPrices, .ref aFree, .ref aPlaces, .ref aHomes, .ref aManners, .ref aGone, .ref aPaid, .ref aBlinks])), (aCells, .inl (cI, 80, .inl fc))]) [1, 0] rfl
      have hD := hD.sub (ws' := [(ct, .inr (1, [.int cw, .int ch, .int cp, .ref aCells, .ref aPrices, .ref aFree, .ref aPlaces, .ref aHomes, .ref aManners, .ref aGone, .ref aPaid, .ref aBlinks])), (aCells, .inl (cI, 80, .inl fc))]) [1, 0] (by decide) rfl
      exact b_zret S.1 S.2.1 X.2.1 X.2.2.1 rfl hP hD hS (Or.inl ⟨(by first | with_reducible assumption | decide | (and_intros <;> first | with_reducible assumption | (intros; refine Int.le_antisymm ?_ ?_ <;> omega) | omega) | assumption | (rw [show Int32.toInt 0 = 0 from rfl]; omega)), (by first | with_reducible assumption | decide | (and_intros <;> first | with_reducible assumption | (intros; refine Int.le_antisymm ?_ ?_ <;> omega) | omega) | assumption | (rw [show Int32.toInt 0 = 0 from rfl]; omega)), rfl, rfl⟩) dX1_isMirror_23
  · have hP : va_P D vwCl [(aCells, .inl (cI, 80, .inl fc)), (ct, .inr (1, [.int cw, .int ch, .int cp, .ref aCells, .ref aPrices, .ref aFree, .ref aPlaces, .ref aHomes, .ref aManners, .ref aGone, .ref aPaid, .ref aBlinks]))] H := hP
    have hD : va_D A [(aCells, .inl (cI, 80, .inl fc)), (ct, .inr (1, [.int cw, .int ch, .int cp, .ref aCells, .ref aPrices, .ref aFree, .ref aPlaces, .ref aHomes, .ref aManners, .ref aGone, .ref aPaid, .ref aBlinks]))] := hD
    refine lv_if_eq (tgt := 22) S.1 S.2.1 dX1_isMirror_5 (by decide) (fun c_11 => ?_) (fun c_11 => absurd c_11 (by decide))
    refine lv_iconst (v := (0)) S.1 S.2.1 dX1_isMirror_22 (by decide) ?_
    have hP := hP.sub (ws' := [(ct, .inr (1, [.int cw, .int ch, .int cp, .ref aCells, .ref aPrices, .ref aFree, .ref aPlaces, .ref aHomes, .ref aManners, .ref aGone, .ref aPaid, .ref aBlinks])), (aCells, .inl (cI, 80, .inl fc))]) [1, 0] rfl
    have hD := hD.sub (ws' := [(ct, .inr (1, [.int cw, .int ch, .int cp, .ref aCells, .ref aPrices, .ref aFree, .ref aPlaces, .ref aHomes, .ref aManners, .ref aGone, .ref aPaid, .ref aBlinks])), (aCells, .inl (cI, 80, .inl fc))]) [1, 0] (by decide) rfl
    exact b_zret S.1 S.2.1 X.2.1 X.2.2.1 rfl hP hD hS (Or.inr (⟨(by first | with_reducible assumption | decide | (and_intros <;> first | with_reducible assumption | (intros; refine Int.le_antisymm ?_ ?_ <;> omega) | omega) | assumption | (rw [show Int32.toInt 0 = 0 from rfl]; omega)), rfl, rfl⟩)) dX1_isMirror_23
set_option maxHeartbeats 4000000 in
set_option maxRecDepth 100000 in
theorem s_X1_ownerOf (l : Launch) (D : va_G) (cI cZ cC cS : ClassId) (sq : Nat → Nat) (sz : Nat) (ct : Nat) (aCells : Nat) (k : Int32) (cw : Int32) (ch : Int32) (cp : Int32) (aPrices : Nat) (aFree : Nat) (aPlaces : Nat) (aHomes : Nat) (aManners : Nat) (aGone : Nat) (aPaid : Nat) (aBlinks : Nat) (fc : Nat → Int32) (hrg_fc : rng fc 80 (-1) (8)) (hw : 0 ≤ cw.toInt ∧ cw.toInt ≤ 10) (hh : 0 ≤ ch.toInt ∧ ch.toInt ≤ 8) : mI l yX1_ownerOf wsX1_ownerOf 1 40 D (tyW cI cZ cC cS) sq [(ct, .inr (1, [.int cw, .int ch, .int cp, .ref aCells, .ref aPrices, .ref aFree, .ref aPlaces, .ref aHomes, .ref aManners, .ref aGone, .ref aPaid, .ref aBlinks])), (aCells, .inl (cI, 80, .inl fc))] sz [.ref ct, .int k] (fun r w => ((0 ≤ r.toInt ∧ r.toInt ≤ 6) ∧ ((0 ≤ k.toInt ∧ k.toInt % 10 < cw.toInt ∧ k.toInt / 10 < ch.toInt ∧ 3 ≤ (fc k.toInt.toNat).toInt ∧ r.toInt = (fc k.toInt.toNat).toInt - 3 ∧ r.toInt ≤ 5) ∨ (¬ (0 ≤ k.toInt ∧ k.toInt % 10 < cw.toInt ∧ k.toInt / 10 < ch.toInt ∧ 3 ≤ (fc k.toInt.toNat).toInt) ∧ r.toInt = 6)) ∧ w = [(ct, .inr (1, [.int cw, .int ch, .int cp, .ref aCells, .ref aPrices, .ref aFree, .ref aPlaces, .ref aHomes, .ref aManners, .ref aGone, .ref aPaid, .ref aBlinks])), (aCells, .inl (cI, 80, .inl fc))])) := by
  refine b_metI (cc := cX1_ownerOf) (maxL := 2) (ret := (some .int)) (by decide) rfl (Nat.le_of_ble_eq_true rfl) ?_
  intro p e s m below meth c ls A H X hsz hP hK hT hD hA hS hl
  have S : CallFix p m c cX1_ownerOf 2 s ([.ref ct, .int k] : List Value).toArray wsX1_ownerOf RX1 := X.1
  have hl : lv_has ls 2 [(0, .ref ct), (1, .int k)] := hl
  have iX1 := jX1_ownerOf_X1
  refine lv_aload_n S.1 S.2.1 dX1_ownerOf_0 rfl (lv_at hl 0 rfl) ?_
  refine lv_iload_n S.1 S.2.1 dX1_ownerOf_1 rfl (lv_at hl 1 rfl) ?_
  refine b_ai (wr := [(aCells, .inl (cI, 80, .inl fc))]) (b_runV (q0 := 0) (ci := 1) (As := [.int k]) (s_X1_isCell l D cI cZ cC cS sq H.size ct k cw ch cp aCells aPrices aFree aPlaces aHomes aManners aGone aPaid aBlinks (by first | with_reducible assumption | decide | (and_intros <;> first | with_reducible assumption | (intros; refine Int.le_antisymm ?_ ?_ <;> omega) | omega) | assumption | (rw [show Int32.toInt 0 = 0 from rfl]; omega)) (by first | with_reducible assumption | decide | (and_intros <;> first | with_reducible assumption | (intros; refine Int.le_antisymm ?_ ?_ <;> omega) | omega) | assumption | (rw [show Int32.toInt 0 = 0 from rfl]; omega))) S gX1_ownerOf_X1_isCell rfl hdV_X1_isCell ⟨Nat.le_of_ble_eq_true rfl, Nat.le_of_ble_eq_true rfl⟩ ⟨Nat.le_of_ble_eq_true rfl, Nat.le_of_ble_eq_true rfl⟩ hK hT hS hA hP hD rfl rfl [0] rfl (by decide) rfl hl.1 rfl (Nat.le_of_ble_eq_true rfl) dX1_ownerOf_2) hP hD hS hA [0] [1] rfl rfl (by decide) (by decide) (fun r_1 w_2 H locs hw_3 hP hD hS => ?_)
  rcases hw_3 with ⟨hf_4, hf_5, rfl, rfl⟩ | ⟨hf_6, rfl, rfl⟩
  · have hP : va_P D vwCl [(aCells, .inl (cI, 80, .inl fc)), (ct, .inr (1, [.int cw, .int ch, .int cp, .ref aCells, .ref aPrices, .ref aFree, .ref aPlaces, .ref aHomes, .ref aManners, .ref aGone, .ref aPaid, .ref aBlinks]))] H := hP
    have hD : va_D A [(aCells, .inl (cI, 80, .inl fc)), (ct, .inr (1, [.int cw, .int ch, .int cp, .ref aCells, .ref aPrices, .ref aFree, .ref aPlaces, .ref aHomes, .ref aManners, .ref aGone, .ref aPaid, .ref aBlinks]))] := hD
    refine lv_if_eq (tgt := 29) S.1 S.2.1 dX1_ownerOf_5 (by decide) (fun c_7 => absurd c_7 (by decide)) (fun c_7 => ?_)
    refine lv_aload_n S.1 S.2.1 dX1_ownerOf_8 rfl (lv_at hl 0 rfl) ?_
    refine b_get (v := .ref aCells) S iX1 hK hP 1 rfl rfl 3 (by decide) (by decide +kernel) rfl dX1_ownerOf_9 ?_
    refine lv_iload_n S.1 S.2.1 dX1_ownerOf_12 rfl (lv_at hl 1 rfl) ?_
    have hin_8 : vp_in k 80 := (in_of (n := 80) (by  omega) (by  omega))
    refine va_iald S.1 S.2.1 hK.1 hP 0 0 rfl rfl hin_8 dX1_ownerOf_13 ?_
    refine lv_topi (fun x_9 ex_9 => ?_)
    have tx_9 := rng_get (x := x_9) (show rng fc 80 (-1) (8) by assumption) hin_8 ex_9
    have bx_9 : x_9.toInt = (fc k.toInt.toNat).toInt := by rw [ex_9]; rfl
    refine lv_iconst (v := (3)) S.1 S.2.1 dX1_ownerOf_14 (by decide) ?_
    refine lv_icmp_lt (tgt := 29) S.1 S.2.1 dX1_ownerOf_15 (by decide) (fun c_10 => ?_) (fun c_10 => ?_)
    · rw [lt2 (a := x_9) (b := 3) (A := x_9.toInt) (B := 3) rfl rfl] at c_10
      refine lv_bipush (v := (6)) S.1 S.2.1 dX1_ownerOf_29 (by decide) ?_
      have hP := hP.sub (ws' := [(ct, .inr (1, [.int cw, .int ch, .int cp, .ref aCells, .ref aPrices, .ref aFree, .ref aPlaces, .ref aHomes, .ref aManners, .ref aGone, .ref aPaid, .ref aBlinks])), (aCells, .inl (cI, 80, .inl fc))]) [1, 0] rfl
      have hD := hD.sub (ws' := [(ct, .inr (1, [.int cw, .int ch, .int cp, .ref aCells, .ref aPrices, .ref aFree, .ref aPlaces, .ref aHomes, .ref aManners, .ref aGone, .ref aPaid, .ref aBlinks])), (aCells, .inl (cI, 80, .inl fc))]) [1, 0] (by decide) rfl
      have lq6 : Int32.toInt (6) = 6 := by decide
      exact b_iret S.1 S.2.1 X.2.1 X.2.2.1 hP hD hS ⟨(by first | with_reducible assumption | decide | (and_intros <;> first | with_reducible assumption | (intros; refine Int.le_antisymm ?_ ?_ <;> omega) | omega) | assumption | (rw [show Int32.toInt 0 = 0 from rfl]; omega)), (by first | with_reducible assumption | decide | (and_intros <;> first | with_reducible assumption | (intros; refine Int.le_antisymm ?_ ?_ <;> omega) | omega) | assumption | (rw [show Int32.toInt 0 = 0 from rfl]; omega)), rfl⟩ dX1_ownerOf_31
    · rw [lt2 (a := x_9) (b := 3) (A := x_9.toInt) (B := 3) rfl rfl] at c_10
      refine lv_aload_n S.1 S.2.1 dX1_ownerOf_18 rfl (lv_at hl 0 rfl) ?_
      refine b_get (v := .ref aCells) S iX1 hK hP 1 rfl rfl 3 (by decide) (by decide +kernel) rfl dX1_ownerOf_19 ?_
      refine lv_iload_n S.1 S.2.1 dX1_ownerOf_22 rfl (lv_at hl 1 rfl) ?_
      have hin_11 : vp_in k 80 := (in_of (n := 80) (by  omega) (by  omega))
      refine va_iald S.1 S.2.1 hK.1 hP 0 0 rfl rfl hin_11 dX1_ownerOf_23 ?_
      refine lv_topi (fun x_12 ex_12 => ?_)
      have tx_12 := rng_get (x := x_12) (show rng fc 80 (-1) (8) by assumption) hin_11 ex_12
      have bx_12 : x_12.toInt = (fc k.toInt.toNat).toInt := by rw [ex_12]; rfl
      have lx_12 : x_12.toInt = x_9.toInt := by rw [ex_12, ex_9]
      refine lv_iconst (v := (3)) S.1 S.2.1 dX1_ownerOf_24 (by decide) ?_
      refine lv_isub S.1 S.2.1 dX1_ownerOf_25 ?_
      refine lv_topi (fun x_13 ex_13 => ?_)
      have tx_13 : x_13.toInt = x_12.toInt - (3) := subI (A := x_12.toInt) (B := 3) ex_13 rfl rfl (by  omega) (by  omega)
      refine lv_goto (tgt := 31) S.1 S.2.1 dX1_ownerOf_26 (by decide) ?_
      have hP := hP.sub (ws' := [(ct, .inr (1, [.int cw, .int ch, .int cp, .ref aCells, .ref aPrices, .ref aFree, .ref aPlaces, .ref aHomes, .ref aManners, .ref aGone, .ref aPaid, .ref aBlinks])), (aCells, .inl (cI, 80, .inl fc))]) [1, 0] rfl
      have hD := hD.sub (ws' := [(ct, .inr (1, [.int cw, .int ch, .int cp, .ref aCells, .ref aPrices, .ref aFree, .ref aPlaces, .ref aHomes, .ref aManners, .ref aGone, .ref aPaid, .ref aBlinks])), (aCells, .inl (cI, 80, .inl fc))]) [1, 0] (by decide) rfl
      exact b_iret S.1 S.2.1 X.2.1 X.2.2.1 hP hD hS ⟨(by first | with_reducible assumption | decide | (and_intros <;> first | with_reducible assumption | (intros; refine Int.le_antisymm ?_ ?_ <;> omega) | omega) | assumption | (rw [show Int32.toInt 0 = 0 from rfl]; omega)), (by first | with_reducible assumption | decide | (and_intros <;> first | with_reducible assumption | (intros; refine Int.le_antisymm ?_ ?_ <;> omega) | omega) | assumption | (rw [show Int32.toInt 0 = 0 from rfl]; omega)), rfl⟩ dX1_ownerOf_31
  · have hP : va_P D vwCl [(aCells, .inl (cI, 80, .inl fc)), (ct, .inr (1, [.int cw, .int ch, .int cp, .ref aCells, .ref aPrices, .ref aFree, .ref aPlaces, .ref aHomes, .ref aManners, .ref aGone, .ref aPaid, .ref aBlinks]))] H := hP
    have hD : va_D A [(aCells, .inl (cI, 80, .inl fc)), (ct, .inr (1, [.int cw, .int ch, .int cp, .ref aCells, .ref aPrices, .ref aFree, .ref aPlaces, .ref aHomes, .ref aManners, .ref aGone, .ref aPaid, .ref aBlinks]))] := hD
    refine lv_if_eq (tgt := 29) S.1 S.2.1 dX1_ownerOf_5 (by decide) (fun c_14 => ?_) (fun c_14 => absurd c_14 (by decide))
    refine lv_bipush (v := (6)) S.1 S.2.1 dX1_ownerOf_29 (by decide) ?_
    have hP := hP.sub (ws' := [(ct, .inr (1, [.int cw, .int ch, .int cp, .ref aCells, .ref aPrices, .ref aFree, .ref aPlaces, .ref aHomes, .ref aManners, .ref aGone, .ref aPaid, .ref aBlinks])), (aCells, .inl (cI, 80, .inl fc))]) [1, 0] rfl
    have hD := hD.sub (ws' := [(ct, .inr (1, [.int cw, .int ch, .int cp, .ref aCells, .ref aPrices, .ref aFree, .ref aPlaces, .ref aHomes, .ref aManners, .ref aGone, .ref aPaid, .ref aBlinks])), (aCells, .inl (cI, 80, .inl fc))]) [1, 0] (by decide) rfl
    have lq6 : Int32.toInt (6) = 6 := by decide
    exact b_iret S.1 S.2.1 X.2.1 X.2.2.1 hP hD hS ⟨(by first | with_reducible assumption | decide | (and_intros <;> first | with_reducible assumption | (intros; refine Int.le_antisymm ?_ ?_ <;> omega) | omega) | assumption | (rw [show Int32.toInt 0 = 0 from rfl]; omega)), (by first | with_reducible assumption | decide | (and_intros <;> first | with_reducible assumption | (intros; refine Int.le_antisymm ?_ ?_ <;> omega) | omega) | assumption | (rw [show Int32.toInt 0 = 0 from rfl]; omega)), rfl⟩ dX1_ownerOf_31
set_option maxHeartbeats 4000000 in
set_option maxRecDepth 100000 in
theorem s_X1_priceAt (l : Launch) (D : va_G) (cI cZ cC cS : ClassId) (sq : Nat → Nat) (sz : Nat) (ct : Nat) (aCells : Nat) (aPrices : Nat) (k : Int32) (cw : Int32) (ch : Int32) (cp : Int32) (aFree : Nat) (aPlaces : Nat) (aHomes : Nat) (aManners : Nat) (aGone : Nat) (aPaid : Nat) (aBlinks : Nat) (fc : Nat → Int32) (fp : Nat → Int32) (hrg_fc : rng fc 80 (-1) (8)) (hw : 0 ≤ cw.toInt ∧ cw.toInt ≤ 10) (hh : 0 ≤ ch.toInt ∧ ch.toInt ≤ 8) : mI l yX1_priceAt wsX1_priceAt 2 80 D (tyW cI cZ cC cS) sq [(ct, .inr (1, [.int cw, .int ch, .int cp, .ref aCells, .ref aPrices, .ref aFree, .ref aPlaces, .ref aHomes, .ref aManners, .ref aGone, .ref aPaid, .ref aBlinks])), (aCells, .inl (cI, 80, .inl fc)), (aPrices, .inl (cI, 6, .inl fp))] sz [.ref ct, .int k] (fun r w => (((0 ≤ k.toInt ∧ k.toInt % 10 < cw.toInt ∧ k.toInt / 10 < ch.toInt ∧ 3 ≤ (fc k.toInt.toNat).toInt ∧ r.toInt = (fp ((fc k.toInt.toNat).toInt - 3).toNat).toInt) ∨ (¬ (0 ≤ k.toInt ∧ k.toInt % 10 < cw.toInt ∧ k.toInt / 10 < ch.toInt ∧ 3 ≤ (fc k.toInt.toNat).toInt) ∧ r.toInt = 0)) ∧ w = [(ct, .inr (1, [.int cw, .int ch, .int cp, .ref aCells, .ref aPrices, .ref aFree, .ref aPlaces, .ref aHomes, .ref aManners, .ref aGone, .ref aPaid, .ref aBlinks])), (aCells, .inl (cI, 80, .inl fc)), (aPrices, .inl (cI, 6, .inl fp))])) := by
  refine b_metI (cc := cX1_priceAt) (maxL := 3) (ret := (some .int)) (by decide) rfl (Nat.le_of_ble_eq_true rfl) ?_
  intro p e s m below meth c ls A H X hsz hP hK hT hD hA hS hl
  have S : CallFix p m c cX1_priceAt 3 s ([.ref ct, .int k] : List Value).toArray wsX1_priceAt RX1 := X.1
  have hl : lv_has ls 3 [(0, .ref ct), (1, .int k)] := hl
  have iX1 := jX1_priceAt_X1
  refine lv_aload_n S.1 S.2.1 dX1_priceAt_0 rfl (lv_at hl 0 rfl) ?_
  refine lv_iload_n S.1 S.2.1 dX1_priceAt_1 rfl (lv_at hl 1 rfl) ?_
  refine b_ai (wr := [(aPrices, .inl (cI, 6, .inl fp))]) (b_runV (q0 := 0) (ci := 1) (As := [.int k]) (s_X1_ownerOf l D cI cZ cC cS sq H.size ct aCells k cw ch cp aPrices aFree aPlaces aHomes aManners aGone aPaid aBlinks fc (by first | with_reducible assumption | assumption | omega | decide | (rw [show Int32.toInt 0 = 0 from rfl]; omega)) (by first | with_reducible assumption | decide | (and_intros <;> first | with_reducible assumption | (intros; refine Int.le_antisymm ?_ ?_ <;> omega) | omega) | assumption | (rw [show Int32.toInt 0 = 0 from rfl]; omega)) (by first | with_reducible assumption | decide | (and_intros <;> first | with_reducible assumption | (intros; refine Int.le_antisymm ?_ ?_ <;> omega) | omega) | assumption | (rw [show Int32.toInt 0 = 0 from rfl]; omega))) S gX1_priceAt_X1_ownerOf rfl hdV_X1_ownerOf ⟨Nat.le_of_ble_eq_true rfl, Nat.le_of_ble_eq_true rfl⟩ ⟨Nat.le_of_ble_eq_true rfl, Nat.le_of_ble_eq_true rfl⟩ hK hT hS hA hP hD rfl rfl [0, 1] rfl (by decide) rfl hl.1 rfl (Nat.le_of_ble_eq_true rfl) dX1_priceAt_2) hP hD hS hA [0, 1] [2] rfl rfl (by decide) (by decide) (fun r_1 w_2 H locs hw_3 hP hD hS => ?_)
  obtain ⟨hf_4, hf_5, rfl⟩ := hw_3
  have hP : va_P D vwCl [(aPrices, .inl (cI, 6, .inl fp)), (ct, .inr (1, [.int cw, .int ch, .int cp, .ref aCells, .ref aPrices, .ref aFree, .ref aPlaces, .ref aHomes, .ref aManners, .ref aGone, .ref aPaid, .ref aBlinks])), (aCells, .inl (cI, 80, .inl fc))] H := hP
  have hD : va_D A [(aPrices, .inl (cI, 6, .inl fp)), (ct, .inr (1, [.int cw, .int ch, .int cp, .ref aCells, .ref aPrices, .ref aFree, .ref aPlaces, .ref aHomes, .ref aManners, .ref aGone, .ref aPaid, .ref aBlinks])), (aCells, .inl (cI, 80, .inl fc))] := hD
  refine lv_istore_n (lv' := [(2, .int r_1), (0, .ref ct), (1, .int k)]) S.1 S.2.1 dX1_priceAt_5 rfl hl (by decide) rfl (fun ls hl => ?_)
  refine lv_iload_n S.1 S.2.1 dX1_priceAt_6 rfl (lv_at hl 0 rfl) ?_
  refine lv_bipush (v := (6)) S.1 S.2.1 dX1_priceAt_7 (by decide) ?_
  refine lv_icmp_ne (tgt := 16) S.1 S.2.1 dX1_priceAt_9 (by decide) (fun c_6 => ?_) (fun c_6 => ?_)
  · rw [eq2 (a := r_1) (b := 6) (A := r_1.toInt) (B := 6) rfl rfl] at c_6
    refine lv_aload_n S.1 S.2.1 dX1_priceAt_16 rfl (lv_at hl 1 rfl) ?_
    refine b_get (v := .ref aPrices) S iX1 hK hP 1 rfl rfl 4 (by decide) (by decide +kernel) rfl dX1_priceAt_17 ?_
    refine lv_iload_n S.1 S.2.1 dX1_priceAt_20 rfl (lv_at hl 0 rfl) ?_
    have hin_7 : vp_in r_1 6 := (in_of (n := 6) (by  omega) (by  omega))
    refine va_iald S.1 S.2.1 hK.1 hP 0 0 rfl rfl hin_7 dX1_priceAt_21 ?_
    refine lv_topi (fun x_8 ex_8 => ?_)
    have bx_8 : x_8.toInt = (fp ((fc k.toInt.toNat).toInt - 3).toNat).toInt := by rw [ex_8]; exact congrArg (fun z => (fp z).toInt) (by show (r_1).toInt.toNat = _; omega)
    have hP := hP.sub (ws' := [(ct, .inr (1, [.int cw, .int ch, .int cp, .ref aCells, .ref aPrices, .ref aFree, .ref aPlaces, .ref aHomes, .ref aManners, .ref aGone, .ref aPaid, .ref aBlinks])), (aCells, .inl (cI, 80, .inl fc)), (aPrices, .inl (cI, 6, .inl fp))]) [1, 2, 0] rfl
    have hD := hD.sub (ws' := [(ct, .inr (1, [.int cw, .int ch, .int cp, .ref aCells, .ref aPrices, .ref aFree, .ref aPlaces, .ref aHomes, .ref aManners, .ref aGone, .ref aPaid, .ref aBlinks])), (aCells, .inl (cI, 80, .inl fc)), (aPrices, .inl (cI, 6, .inl fp))]) [1, 2, 0] (by decide) rfl
    exact b_iret S.1 S.2.1 X.2.1 X.2.2.1 hP hD hS ⟨(by first | with_reducible assumption | decide | (and_intros <;> first | with_reducible assumption | (intros; refine Int.le_antisymm ?_ ?_ <;> omega) | omega) | assumption | (rw [show Int32.toInt 0 = 0 from rfl]; omega)), rfl⟩ dX1_priceAt_22
  · rw [eq2 (a := r_1) (b := 6) (A := r_1.toInt) (B := 6) rfl rfl] at c_6
    refine lv_iconst (v := (0)) S.1 S.2.1 dX1_priceAt_12 (by decide) ?_
    refine lv_goto (tgt := 22) S.1 S.2.1 dX1_priceAt_13 (by decide) ?_
    have hP := hP.sub (ws' := [(ct, .inr (1, [.int cw, .int ch, .int cp, .ref aCells, .ref aPrices, .ref aFree, .ref aPlaces, .ref aHomes, .ref aManners, .ref aGone, .ref aPaid, .ref aBlinks])), (aCells, .inl (cI, 80, .inl fc)), (aPrices, .inl (cI, 6, .inl fp))]) [1, 2, 0] rfl
    have hD := hD.sub (ws' := [(ct, .inr (1, [.int cw, .int ch, .int cp, .ref aCells, .ref aPrices, .ref aFree, .ref aPlaces, .ref aHomes, .ref aManners, .ref aGone, .ref aPaid, .ref aBlinks])), (aCells, .inl (cI, 80, .inl fc)), (aPrices, .inl (cI, 6, .inl fp))]) [1, 2, 0] (by decide) rfl
    have lq0 : Int32.toInt (0) = 0 := by decide
    exact b_iret S.1 S.2.1 X.2.1 X.2.2.1 hP hD hS ⟨(by first | with_reducible assumption | decide | (and_intros <;> first | with_reducible assumption | (intros; refine Int.le_antisymm ?_ ?_ <;> omega) | omega) | assumption | (rw [show Int32.toInt 0 = 0 from rfl]; omega)), rfl⟩ dX1_priceAt_22
