set_option maxRecDepth 20000 in
theorem ggX0_firstBody_X0_kindOf : GoodIn wsX0_firstBody wsX0_kindOf := goodIn_r _ [7, 8, 9, 10, 11, 12, 13, 14, 15, 16, 17, 18, 19, 20, 21, 22, 23, 24, 25, 26, 27, 28, 29, 30, 31, 32, 33, 34, 35, 36, 37, 38, 39, 40, 41, 42, 43, 44, 45, 46, 47, 48, 49] (by first | exact rfl | decide +kernel) (by decide +kernel)
set_option maxRecDepth 20000 in
theorem gX0_firstBody_X0_kindOf : GoodIn wsX0_firstBody (wsV RX0 39 RX0 yX0_kindOf wsX0_kindOf) := goodIn_app (goodIn_r _ [3, 4, 5, 6] (by first | exact rfl | decide +kernel) (by decide +kernel)) ggX0_firstBody_X0_kindOf
set_option maxRecDepth 20000 in
theorem ggX0_isA_X0_kindOf : GoodIn wsX0_isA wsX0_kindOf := goodIn_r _ [6, 7, 8, 9, 10, 11, 12, 13, 14, 15, 16, 17, 18, 19, 20, 21, 22, 23, 24, 25, 26, 27, 28, 29, 30, 31, 32, 33, 34, 35, 36, 37, 38, 39, 40, 41, 42, 43, 44, 45, 46, 47, 48] (by first | exact rfl | decide +kernel) (by decide +kernel)
set_option maxRecDepth 20000 in
theorem gX0_isA_X0_kindOf : GoodIn wsX0_isA (wsV RX0 39 RX0 yX0_kindOf wsX0_kindOf) := goodIn_app (goodIn_r _ [2, 3, 4, 5] (by first | exact rfl | decide +kernel) (by decide +kernel)) ggX0_isA_X0_kindOf
set_option maxRecDepth 20000 in
theorem ggX0_kindOf_X1_isMirror : GoodIn wsX0_kindOf wsX1_isMirror := goodIn_r _ [23, 7, 8, 9, 10, 5, 11, 12, 13, 31, 32, 33, 34, 35, 36, 37, 38, 39, 40, 41, 42] (by first | exact rfl | decide +kernel) (by decide +kernel)
set_option maxRecDepth 20000 in
theorem gX0_kindOf_X1_isMirror : GoodIn wsX0_kindOf (wsV RX0 32 RX1 yX1_isMirror wsX1_isMirror) := goodIn_app (goodIn_r _ [20, 21, 22, 5] (by first | exact rfl | decide +kernel) (by decide +kernel)) ggX0_kindOf_X1_isMirror
set_option maxRecDepth 20000 in
theorem ggX0_kindOf_X1_isOpen : GoodIn wsX0_kindOf wsX1_isOpen := goodIn_r _ [27, 7, 8, 9, 10, 5, 11, 12, 13, 31, 32, 33, 34, 35, 36, 37, 38, 39, 40, 41, 42] (by first | exact rfl | decide +kernel) (by decide +kernel)
set_option maxRecDepth 20000 in
theorem gX0_kindOf_X1_isOpen : GoodIn wsX0_kindOf (wsV RX0 36 RX1 yX1_isOpen wsX1_isOpen) := goodIn_app (goodIn_r _ [24, 25, 26, 5] (by first | exact rfl | decide +kernel) (by decide +kernel)) ggX0_kindOf_X1_isOpen
set_option maxRecDepth 20000 in
theorem ggX0_kindOf_X1_ownerOf : GoodIn wsX0_kindOf wsX1_ownerOf := goodIn_r _ [6, 7, 8, 9, 10, 5, 11, 12, 13, 31, 32, 33, 34, 35, 36, 37, 38, 39, 40, 41, 42] (by first | exact rfl | decide +kernel) (by decide +kernel)
set_option maxRecDepth 20000 in
theorem gX0_kindOf_X1_ownerOf : GoodIn wsX0_kindOf (wsV RX0 23 RX1 yX1_ownerOf wsX1_ownerOf) := goodIn_app (goodIn_r _ [2, 3, 4, 5] (by first | exact rfl | decide +kernel) (by decide +kernel)) ggX0_kindOf_X1_ownerOf
set_option maxRecDepth 20000 in
theorem ggX0_kindOf_X1_priceAt : GoodIn wsX0_kindOf wsX1_priceAt := goodIn_r _ [17, 18, 19, 3, 4, 5, 6, 7, 8, 9, 10, 11, 12, 13, 31, 32, 33, 34, 35, 36, 37, 38, 39, 40, 41, 42] (by first | exact rfl | decide +kernel) (by decide +kernel)
set_option maxRecDepth 20000 in
theorem gX0_kindOf_X1_priceAt : GoodIn wsX0_kindOf (wsV RX0 29 RX1 yX1_priceAt wsX1_priceAt) := goodIn_app (goodIn_r _ [14, 15, 16, 5] (by first | exact rfl | decide +kernel) (by decide +kernel)) ggX0_kindOf_X1_priceAt
set_option maxRecDepth 20000 in
theorem ggX2_earnings_X7_timesPaid : GoodIn wsX2_earnings wsX7_timesPaid := goodIn_r _ [9, 10, 11, 12, 13, 14, 15, 16, 17, 18, 19, 20, 21, 22, 23, 8, 24, 25, 26, 27, 28, 29, 30, 31, 32, 33, 34, 35, 36, 37, 38, 39, 40, 41, 42, 43, 44, 45, 46, 47, 48, 49, 50, 51, 52, 53, 54, 55, 56, 57, 58, 59, 60, 61, 62, 63, 64, 65, 66, 67, 68, 69, 70, 71, 72, 90, 91, 92, 93, 94, 95, 96, 97, 98, 99, 100, 101, 102, 103, 104, 78, 79, 80, 81, 82, 83, 84, 85, 86, 87, 88, 89] (by first | exact rfl | decide +kernel) (by decide +kernel)
set_option maxRecDepth 20000 in
theorem gX2_earnings_X7_timesPaid : GoodIn wsX2_earnings (wsV RX2 50 RX7 yX7_timesPaid wsX7_timesPaid) := goodIn_app (goodIn_r _ [5, 6, 7, 8] (by first | exact rfl | decide +kernel) (by decide +kernel)) ggX2_earnings_X7_timesPaid
set_option maxRecDepth 20000 in
theorem ggX2_open_X7_regard : GoodIn wsX2_open wsX7_regard := goodIn_r _ [13, 14, 15, 33, 34, 35, 36, 37, 38, 39, 40, 41, 42, 43] (by first | exact rfl | decide +kernel) (by decide +kernel)
set_option maxRecDepth 20000 in
theorem gX2_open_X7_regard : GoodIn wsX2_open (wsV RX2 40 RX7 yX7_regard wsX7_regard) := goodIn_app (goodIn_r _ [9, 10, 11, 12] (by first | exact rfl | decide +kernel) (by decide +kernel)) ggX2_open_X7_regard
set_option maxRecDepth 20000 in
theorem gdX0_firstBody_0 : decode cX0_firstBody 0 = .ok (.iload_n 2, 1) ∧ decode cX0_firstBody 1 = .ok (.ifCond .ne 15, 3) ∧ decode cX0_firstBody 4 = .ok (.getstatic 53, 3) ∧ decode cX0_firstBody 7 = .ok (.aload_n 0, 1) ∧ decode cX0_firstBody 8 = .ok (.iload_n 1, 1) ∧ decode cX0_firstBody 9 = .ok (.invokevirtual 39, 3) ∧ decode cX0_firstBody 12 = .ok (.iaload, 1) ∧ decode cX0_firstBody 13 = .ok (.goto 12, 3) := by decide +kernel
theorem dX0_firstBody_0 : decode cX0_firstBody 0 = .ok (.iload_n 2, 1) := gdX0_firstBody_0.1
theorem dX0_firstBody_1 : decode cX0_firstBody 1 = .ok (.ifCond .ne 15, 3) := gdX0_firstBody_0.2.1
theorem dX0_firstBody_4 : decode cX0_firstBody 4 = .ok (.getstatic 53, 3) := gdX0_firstBody_0.2.2.1
theorem dX0_firstBody_7 : decode cX0_firstBody 7 = .ok (.aload_n 0, 1) := gdX0_firstBody_0.2.2.2.1
theorem dX0_firstBody_8 : decode cX0_firstBody 8 = .ok (.iload_n 1, 1) := gdX0_firstBody_0.2.2.2.2.1
theorem dX0_firstBody_9 : decode cX0_firstBody 9 = .ok (.invokevirtual 39, 3) := gdX0_firstBody_0.2.2.2.2.2.1
theorem dX0_firstBody_12 : decode cX0_firstBody 12 = .ok (.iaload, 1) := gdX0_firstBody_0.2.2.2.2.2.2.1
theorem dX0_firstBody_13 : decode cX0_firstBody 13 = .ok (.goto 12, 3) := gdX0_firstBody_0.2.2.2.2.2.2.2
set_option maxRecDepth 20000 in
theorem gdX0_firstBody_16 : decode cX0_firstBody 16 = .ok (.getstatic 56, 3) ∧ decode cX0_firstBody 19 = .ok (.aload_n 0, 1) ∧ decode cX0_firstBody 20 = .ok (.iload_n 1, 1) ∧ decode cX0_firstBody 21 = .ok (.invokevirtual 39, 3) ∧ decode cX0_firstBody 24 = .ok (.iaload, 1) ∧ decode cX0_firstBody 25 = .ok (.ireturn, 1) := by decide +kernel
theorem dX0_firstBody_16 : decode cX0_firstBody 16 = .ok (.getstatic 56, 3) := gdX0_firstBody_16.1
theorem dX0_firstBody_19 : decode cX0_firstBody 19 = .ok (.aload_n 0, 1) := gdX0_firstBody_16.2.1
theorem dX0_firstBody_20 : decode cX0_firstBody 20 = .ok (.iload_n 1, 1) := gdX0_firstBody_16.2.2.1
theorem dX0_firstBody_21 : decode cX0_firstBody 21 = .ok (.invokevirtual 39, 3) := gdX0_firstBody_16.2.2.2.1
theorem dX0_firstBody_24 : decode cX0_firstBody 24 = .ok (.iaload, 1) := gdX0_firstBody_16.2.2.2.2.1
theorem dX0_firstBody_25 : decode cX0_firstBody 25 = .ok (.ireturn, 1) := gdX0_firstBody_16.2.2.2.2.2
set_option maxRecDepth 20000 in
theorem gdX0_isA_0 : decode cX0_isA 0 = .ok (.aload_n 0, 1) ∧ decode cX0_isA 1 = .ok (.iload_n 1, 1) ∧ decode cX0_isA 2 = .ok (.invokevirtual 39, 3) ∧ decode cX0_isA 5 = .ok (.istore_n 3, 1) ∧ decode cX0_isA 6 = .ok (.iconst 0, 1) ∧ decode cX0_isA 7 = .ok (.istore 4, 2) ∧ decode cX0_isA 9 = .ok (.iload 4, 2) ∧ decode cX0_isA 11 = .ok (.bipush 6, 2) := by decide +kernel
theorem dX0_isA_0 : decode cX0_isA 0 = .ok (.aload_n 0, 1) := gdX0_isA_0.1
theorem dX0_isA_1 : decode cX0_isA 1 = .ok (.iload_n 1, 1) := gdX0_isA_0.2.1
theorem dX0_isA_2 : decode cX0_isA 2 = .ok (.invokevirtual 39, 3) := gdX0_isA_0.2.2.1
theorem dX0_isA_5 : decode cX0_isA 5 = .ok (.istore_n 3, 1) := gdX0_isA_0.2.2.2.1
theorem dX0_isA_6 : decode cX0_isA 6 = .ok (.iconst 0, 1) := gdX0_isA_0.2.2.2.2.1
theorem dX0_isA_7 : decode cX0_isA 7 = .ok (.istore 4, 2) := gdX0_isA_0.2.2.2.2.2.1
theorem dX0_isA_9 : decode cX0_isA 9 = .ok (.iload 4, 2) := gdX0_isA_0.2.2.2.2.2.2.1
theorem dX0_isA_11 : decode cX0_isA 11 = .ok (.bipush 6, 2) := gdX0_isA_0.2.2.2.2.2.2.2
set_option maxRecDepth 20000 in
theorem gdX0_isA_13 : decode cX0_isA 13 = .ok (.if_icmp .ge 24, 3) ∧ decode cX0_isA 16 = .ok (.iload_n 3, 1) ∧ decode cX0_isA 17 = .ok (.ifCond .le 20, 3) ∧ decode cX0_isA 20 = .ok (.iload_n 3, 1) ∧ decode cX0_isA 21 = .ok (.iload_n 2, 1) ∧ decode cX0_isA 22 = .ok (.if_icmp .eq 15, 3) ∧ decode cX0_isA 25 = .ok (.getstatic 42, 3) ∧ decode cX0_isA 28 = .ok (.iload_n 3, 1) := by decide +kernel
theorem dX0_isA_13 : decode cX0_isA 13 = .ok (.if_icmp .ge 24, 3) := gdX0_isA_13.1
theorem dX0_isA_16 : decode cX0_isA 16 = .ok (.iload_n 3, 1) := gdX0_isA_13.2.1
theorem dX0_isA_17 : decode cX0_isA 17 = .ok (.ifCond .le 20, 3) := gdX0_isA_13.2.2.1
theorem dX0_isA_20 : decode cX0_isA 20 = .ok (.iload_n 3, 1) := gdX0_isA_13.2.2.2.1
theorem dX0_isA_21 : decode cX0_isA 21 = .ok (.iload_n 2, 1) := gdX0_isA_13.2.2.2.2.1
theorem dX0_isA_22 : decode cX0_isA 22 = .ok (.if_icmp .eq 15, 3) := gdX0_isA_13.2.2.2.2.2.1
theorem dX0_isA_25 : decode cX0_isA 25 = .ok (.getstatic 42, 3) := gdX0_isA_13.2.2.2.2.2.2.1
theorem dX0_isA_28 : decode cX0_isA 28 = .ok (.iload_n 3, 1) := gdX0_isA_13.2.2.2.2.2.2.2
set_option maxRecDepth 20000 in
theorem gdX0_isA_29 : decode cX0_isA 29 = .ok (.iaload, 1) ∧ decode cX0_isA 30 = .ok (.istore_n 3, 1) ∧ decode cX0_isA 31 = .ok (.iinc 4 1, 3) ∧ decode cX0_isA 34 = .ok (.goto (-25), 3) ∧ decode cX0_isA 37 = .ok (.iload_n 3, 1) ∧ decode cX0_isA 38 = .ok (.iload_n 2, 1) ∧ decode cX0_isA 39 = .ok (.if_icmp .ne 7, 3) ∧ decode cX0_isA 42 = .ok (.iconst 1, 1) := by decide +kernel
theorem dX0_isA_29 : decode cX0_isA 29 = .ok (.iaload, 1) := gdX0_isA_29.1
theorem dX0_isA_30 : decode cX0_isA 30 = .ok (.istore_n 3, 1) := gdX0_isA_29.2.1
theorem dX0_isA_31 : decode cX0_isA 31 = .ok (.iinc 4 1, 3) := gdX0_isA_29.2.2.1
theorem dX0_isA_34 : decode cX0_isA 34 = .ok (.goto (-25), 3) := gdX0_isA_29.2.2.2.1
theorem dX0_isA_37 : decode cX0_isA 37 = .ok (.iload_n 3, 1) := gdX0_isA_29.2.2.2.2.1
theorem dX0_isA_38 : decode cX0_isA 38 = .ok (.iload_n 2, 1) := gdX0_isA_29.2.2.2.2.2.1
theorem dX0_isA_39 : decode cX0_isA 39 = .ok (.if_icmp .ne 7, 3) := gdX0_isA_29.2.2.2.2.2.2.1
theorem dX0_isA_42 : decode cX0_isA 42 = .ok (.iconst 1, 1) := gdX0_isA_29.2.2.2.2.2.2.2
set_option maxRecDepth 20000 in
theorem gdX0_isA_43 : decode cX0_isA 43 = .ok (.goto 4, 3) ∧ decode cX0_isA 46 = .ok (.iconst 0, 1) ∧ decode cX0_isA 47 = .ok (.ireturn, 1) := by decide +kernel
theorem dX0_isA_43 : decode cX0_isA 43 = .ok (.goto 4, 3) := gdX0_isA_43.1
theorem dX0_isA_46 : decode cX0_isA 46 = .ok (.iconst 0, 1) := gdX0_isA_43.2.1
theorem dX0_isA_47 : decode cX0_isA 47 = .ok (.ireturn, 1) := gdX0_isA_43.2.2
set_option maxRecDepth 20000 in
theorem gdX0_kindOf_0 : decode cX0_kindOf 0 = .ok (.aload_n 0, 1) ∧ decode cX0_kindOf 1 = .ok (.getfield 19, 3) ∧ decode cX0_kindOf 4 = .ok (.iload_n 1, 1) ∧ decode cX0_kindOf 5 = .ok (.invokevirtual 23, 3) ∧ decode cX0_kindOf 8 = .ok (.bipush 6, 2) ∧ decode cX0_kindOf 10 = .ok (.if_icmp .eq 22, 3) ∧ decode cX0_kindOf 13 = .ok (.aload_n 0, 1) ∧ decode cX0_kindOf 14 = .ok (.getfield 19, 3) := by decide +kernel
theorem dX0_kindOf_0 : decode cX0_kindOf 0 = .ok (.aload_n 0, 1) := gdX0_kindOf_0.1
theorem dX0_kindOf_1 : decode cX0_kindOf 1 = .ok (.getfield 19, 3) := gdX0_kindOf_0.2.1
theorem dX0_kindOf_4 : decode cX0_kindOf 4 = .ok (.iload_n 1, 1) := gdX0_kindOf_0.2.2.1
theorem dX0_kindOf_5 : decode cX0_kindOf 5 = .ok (.invokevirtual 23, 3) := gdX0_kindOf_0.2.2.2.1
theorem dX0_kindOf_8 : decode cX0_kindOf 8 = .ok (.bipush 6, 2) := gdX0_kindOf_0.2.2.2.2.1
theorem dX0_kindOf_10 : decode cX0_kindOf 10 = .ok (.if_icmp .eq 22, 3) := gdX0_kindOf_0.2.2.2.2.2.1
theorem dX0_kindOf_13 : decode cX0_kindOf 13 = .ok (.aload_n 0, 1) := gdX0_kindOf_0.2.2.2.2.2.2.1
theorem dX0_kindOf_14 : decode cX0_kindOf 14 = .ok (.getfield 19, 3) := gdX0_kindOf_0.2.2.2.2.2.2.2
set_option maxRecDepth 20000 in
theorem gdX0_kindOf_17 : decode cX0_kindOf 17 = .ok (.iload_n 1, 1) ∧ decode cX0_kindOf 18 = .ok (.invokevirtual 29, 3) ∧ decode cX0_kindOf 21 = .ok (.bipush 50, 2) ∧ decode cX0_kindOf 23 = .ok (.if_icmp .lt 7, 3) ∧ decode cX0_kindOf 26 = .ok (.iconst 5, 1) ∧ decode cX0_kindOf 27 = .ok (.goto 4, 3) ∧ decode cX0_kindOf 30 = .ok (.iconst 3, 1) ∧ decode cX0_kindOf 31 = .ok (.ireturn, 1) := by decide +kernel
theorem dX0_kindOf_17 : decode cX0_kindOf 17 = .ok (.iload_n 1, 1) := gdX0_kindOf_17.1
theorem dX0_kindOf_18 : decode cX0_kindOf 18 = .ok (.invokevirtual 29, 3) := gdX0_kindOf_17.2.1
theorem dX0_kindOf_21 : decode cX0_kindOf 21 = .ok (.bipush 50, 2) := gdX0_kindOf_17.2.2.1
theorem dX0_kindOf_23 : decode cX0_kindOf 23 = .ok (.if_icmp .lt 7, 3) := gdX0_kindOf_17.2.2.2.1
theorem dX0_kindOf_26 : decode cX0_kindOf 26 = .ok (.iconst 5, 1) := gdX0_kindOf_17.2.2.2.2.1
theorem dX0_kindOf_27 : decode cX0_kindOf 27 = .ok (.goto 4, 3) := gdX0_kindOf_17.2.2.2.2.2.1
theorem dX0_kindOf_30 : decode cX0_kindOf 30 = .ok (.iconst 3, 1) := gdX0_kindOf_17.2.2.2.2.2.2.1
theorem dX0_kindOf_31 : decode cX0_kindOf 31 = .ok (.ireturn, 1) := gdX0_kindOf_17.2.2.2.2.2.2.2
set_option maxRecDepth 20000 in
theorem gdX0_kindOf_32 : decode cX0_kindOf 32 = .ok (.aload_n 0, 1) ∧ decode cX0_kindOf 33 = .ok (.getfield 19, 3) ∧ decode cX0_kindOf 36 = .ok (.iload_n 1, 1) ∧ decode cX0_kindOf 37 = .ok (.invokevirtual 32, 3) ∧ decode cX0_kindOf 40 = .ok (.ifCond .eq 5, 3) ∧ decode cX0_kindOf 43 = .ok (.iconst 4, 1) ∧ decode cX0_kindOf 44 = .ok (.ireturn, 1) ∧ decode cX0_kindOf 45 = .ok (.aload_n 0, 1) := by decide +kernel
theorem dX0_kindOf_32 : decode cX0_kindOf 32 = .ok (.aload_n 0, 1) := gdX0_kindOf_32.1
theorem dX0_kindOf_33 : decode cX0_kindOf 33 = .ok (.getfield 19, 3) := gdX0_kindOf_32.2.1
theorem dX0_kindOf_36 : decode cX0_kindOf 36 = .ok (.iload_n 1, 1) := gdX0_kindOf_32.2.2.1
theorem dX0_kindOf_37 : decode cX0_kindOf 37 = .ok (.invokevirtual 32, 3) := gdX0_kindOf_32.2.2.2.1
theorem dX0_kindOf_40 : decode cX0_kindOf 40 = .ok (.ifCond .eq 5, 3) := gdX0_kindOf_32.2.2.2.2.1
theorem dX0_kindOf_43 : decode cX0_kindOf 43 = .ok (.iconst 4, 1) := gdX0_kindOf_32.2.2.2.2.2.1
theorem dX0_kindOf_44 : decode cX0_kindOf 44 = .ok (.ireturn, 1) := gdX0_kindOf_32.2.2.2.2.2.2.1
theorem dX0_kindOf_45 : decode cX0_kindOf 45 = .ok (.aload_n 0, 1) := gdX0_kindOf_32.2.2.2.2.2.2.2
set_option maxRecDepth 20000 in
theorem gdX0_kindOf_46 : decode cX0_kindOf 46 = .ok (.getfield 19, 3) ∧ decode cX0_kindOf 49 = .ok (.iload_n 1, 1) ∧ decode cX0_kindOf 50 = .ok (.invokevirtual 36, 3) ∧ decode cX0_kindOf 53 = .ok (.ifCond .eq 7, 3) ∧ decode cX0_kindOf 56 = .ok (.iconst 1, 1) ∧ decode cX0_kindOf 57 = .ok (.goto 4, 3) ∧ decode cX0_kindOf 60 = .ok (.iconst 2, 1) ∧ decode cX0_kindOf 61 = .ok (.ireturn, 1) := by decide +kernel
theorem dX0_kindOf_46 : decode cX0_kindOf 46 = .ok (.getfield 19, 3) := gdX0_kindOf_46.1
theorem dX0_kindOf_49 : decode cX0_kindOf 49 = .ok (.iload_n 1, 1) := gdX0_kindOf_46.2.1
theorem dX0_kindOf_50 : decode cX0_kindOf 50 = .ok (.invokevirtual 36, 3) := gdX0_kindOf_46.2.2.1
theorem dX0_kindOf_53 : decode cX0_kindOf 53 = .ok (.ifCond .eq 7, 3) := gdX0_kindOf_46.2.2.2.1
theorem dX0_kindOf_56 : decode cX0_kindOf 56 = .ok (.iconst 1, 1) := gdX0_kindOf_46.2.2.2.2.1
theorem dX0_kindOf_57 : decode cX0_kindOf 57 = .ok (.goto 4, 3) := gdX0_kindOf_46.2.2.2.2.2.1
theorem dX0_kindOf_60 : decode cX0_kindOf 60 = .ok (.iconst 2, 1) := gdX0_kindOf_46.2.2.2.2.2.2.1
theorem dX0_kindOf_61 : decode cX0_kindOf 61 = .ok (.ireturn, 1) := gdX0_kindOf_46.2.2.2.2.2.2.2
set_option maxRecDepth 20000 in
theorem gdX2_earnings_0 : decode cX2_earnings 0 = .ok (.iconst 0, 1) ∧ decode cX2_earnings 1 = .ok (.istore_n 2, 1) ∧ decode cX2_earnings 2 = .ok (.iconst 0, 1) ∧ decode cX2_earnings 3 = .ok (.istore_n 3, 1) ∧ decode cX2_earnings 4 = .ok (.iload_n 3, 1) ∧ decode cX2_earnings 5 = .ok (.aload_n 0, 1) ∧ decode cX2_earnings 6 = .ok (.getfield 21, 3) ∧ decode cX2_earnings 9 = .ok (.getfield 46, 3) := by decide +kernel
theorem dX2_earnings_0 : decode cX2_earnings 0 = .ok (.iconst 0, 1) := gdX2_earnings_0.1
theorem dX2_earnings_1 : decode cX2_earnings 1 = .ok (.istore_n 2, 1) := gdX2_earnings_0.2.1
theorem dX2_earnings_2 : decode cX2_earnings 2 = .ok (.iconst 0, 1) := gdX2_earnings_0.2.2.1
theorem dX2_earnings_3 : decode cX2_earnings 3 = .ok (.istore_n 3, 1) := gdX2_earnings_0.2.2.2.1
theorem dX2_earnings_4 : decode cX2_earnings 4 = .ok (.iload_n 3, 1) := gdX2_earnings_0.2.2.2.2.1
theorem dX2_earnings_5 : decode cX2_earnings 5 = .ok (.aload_n 0, 1) := gdX2_earnings_0.2.2.2.2.2.1
theorem dX2_earnings_6 : decode cX2_earnings 6 = .ok (.getfield 21, 3) := gdX2_earnings_0.2.2.2.2.2.2.1
theorem dX2_earnings_9 : decode cX2_earnings 9 = .ok (.getfield 46, 3) := gdX2_earnings_0.2.2.2.2.2.2.2
set_option maxRecDepth 20000 in
theorem gdX2_earnings_12 : decode cX2_earnings 12 = .ok (.if_icmp .ge 28, 3) ∧ decode cX2_earnings 15 = .ok (.iload_n 2, 1) ∧ decode cX2_earnings 16 = .ok (.aload_n 0, 1) ∧ decode cX2_earnings 17 = .ok (.getfield 25, 3) ∧ decode cX2_earnings 20 = .ok (.iload_n 3, 1) ∧ decode cX2_earnings 21 = .ok (.iload_n 1, 1) ∧ decode cX2_earnings 22 = .ok (.invokevirtual 50, 3) ∧ decode cX2_earnings 25 = .ok (.aload_n 0, 1) := by decide +kernel
theorem dX2_earnings_12 : decode cX2_earnings 12 = .ok (.if_icmp .ge 28, 3) := gdX2_earnings_12.1
theorem dX2_earnings_15 : decode cX2_earnings 15 = .ok (.iload_n 2, 1) := gdX2_earnings_12.2.1
theorem dX2_earnings_16 : decode cX2_earnings 16 = .ok (.aload_n 0, 1) := gdX2_earnings_12.2.2.1
theorem dX2_earnings_17 : decode cX2_earnings 17 = .ok (.getfield 25, 3) := gdX2_earnings_12.2.2.2.1
theorem dX2_earnings_20 : decode cX2_earnings 20 = .ok (.iload_n 3, 1) := gdX2_earnings_12.2.2.2.2.1
theorem dX2_earnings_21 : decode cX2_earnings 21 = .ok (.iload_n 1, 1) := gdX2_earnings_12.2.2.2.2.2.1
theorem dX2_earnings_22 : decode cX2_earnings 22 = .ok (.invokevirtual 50, 3) := gdX2_earnings_12.2.2.2.2.2.2.1
theorem dX2_earnings_25 : decode cX2_earnings 25 = .ok (.aload_n 0, 1) := gdX2_earnings_12.2.2.2.2.2.2.2
set_option maxRecDepth 20000 in
theorem gdX2_earnings_26 : decode cX2_earnings 26 = .ok (.getfield 9, 3) ∧ decode cX2_earnings 29 = .ok (.iload_n 1, 1) ∧ decode cX2_earnings 30 = .ok (.iaload, 1) ∧ decode cX2_earnings 31 = .ok (.imul, 1) ∧ decode cX2_earnings 32 = .ok (.iadd, 1) ∧ decode cX2_earnings 33 = .ok (.istore_n 2, 1) ∧ decode cX2_earnings 34 = .ok (.iinc 3 1, 3) ∧ decode cX2_earnings 37 = .ok (.goto (-33), 3) := by decide +kernel
theorem dX2_earnings_26 : decode cX2_earnings 26 = .ok (.getfield 9, 3) := gdX2_earnings_26.1
theorem dX2_earnings_29 : decode cX2_earnings 29 = .ok (.iload_n 1, 1) := gdX2_earnings_26.2.1
theorem dX2_earnings_30 : decode cX2_earnings 30 = .ok (.iaload, 1) := gdX2_earnings_26.2.2.1
theorem dX2_earnings_31 : decode cX2_earnings 31 = .ok (.imul, 1) := gdX2_earnings_26.2.2.2.1
theorem dX2_earnings_32 : decode cX2_earnings 32 = .ok (.iadd, 1) := gdX2_earnings_26.2.2.2.2.1
theorem dX2_earnings_33 : decode cX2_earnings 33 = .ok (.istore_n 2, 1) := gdX2_earnings_26.2.2.2.2.2.1
theorem dX2_earnings_34 : decode cX2_earnings 34 = .ok (.iinc 3 1, 3) := gdX2_earnings_26.2.2.2.2.2.2.1
theorem dX2_earnings_37 : decode cX2_earnings 37 = .ok (.goto (-33), 3) := gdX2_earnings_26.2.2.2.2.2.2.2
theorem dX2_earnings_40 : decode cX2_earnings 40 = .ok (.iload_n 2, 1) := by decide +kernel
theorem dX2_earnings_41 : decode cX2_earnings 41 = .ok (.ireturn, 1) := by decide +kernel
set_option maxRecDepth 20000 in
theorem gdX2_open_0 : decode cX2_open 0 = .ok (.aload_n 0, 1) ∧ decode cX2_open 1 = .ok (.getfield 21, 3) ∧ decode cX2_open 4 = .ok (.getfield 29, 3) ∧ decode cX2_open 7 = .ok (.iconst 0, 1) ∧ decode cX2_open 8 = .ok (.aload_n 0, 1) ∧ decode cX2_open 9 = .ok (.getfield 9, 3) ∧ decode cX2_open 12 = .ok (.iconst 0, 1) ∧ decode cX2_open 13 = .ok (.bipush 6, 2) := by decide +kernel
theorem dX2_open_0 : decode cX2_open 0 = .ok (.aload_n 0, 1) := gdX2_open_0.1
theorem dX2_open_1 : decode cX2_open 1 = .ok (.getfield 21, 3) := gdX2_open_0.2.1
theorem dX2_open_4 : decode cX2_open 4 = .ok (.getfield 29, 3) := gdX2_open_0.2.2.1
theorem dX2_open_7 : decode cX2_open 7 = .ok (.iconst 0, 1) := gdX2_open_0.2.2.2.1
theorem dX2_open_8 : decode cX2_open 8 = .ok (.aload_n 0, 1) := gdX2_open_0.2.2.2.2.1
theorem dX2_open_9 : decode cX2_open 9 = .ok (.getfield 9, 3) := gdX2_open_0.2.2.2.2.2.1
theorem dX2_open_12 : decode cX2_open 12 = .ok (.iconst 0, 1) := gdX2_open_0.2.2.2.2.2.2.1
theorem dX2_open_13 : decode cX2_open 13 = .ok (.bipush 6, 2) := gdX2_open_0.2.2.2.2.2.2.2
set_option maxRecDepth 20000 in
theorem gdX2_open_15 : decode cX2_open 15 = .ok (.invokestatic 34, 3) ∧ decode cX2_open 18 = .ok (.aload_n 0, 1) ∧ decode cX2_open 19 = .ok (.getfield 25, 3) ∧ decode cX2_open 22 = .ok (.aload_n 1, 1) ∧ decode cX2_open 23 = .ok (.aload_n 0, 1) ∧ decode cX2_open 24 = .ok (.getfield 9, 3) ∧ decode cX2_open 27 = .ok (.invokevirtual 40, 3) ∧ decode cX2_open 30 = .ok (.return_, 1) := by decide +kernel
theorem dX2_open_15 : decode cX2_open 15 = .ok (.invokestatic 34, 3) := gdX2_open_15.1
theorem dX2_open_18 : decode cX2_open 18 = .ok (.aload_n 0, 1) := gdX2_open_15.2.1
theorem dX2_open_19 : decode cX2_open 19 = .ok (.getfield 25, 3) := gdX2_open_15.2.2.1
theorem dX2_open_22 : decode cX2_open 22 = .ok (.aload_n 1, 1) := gdX2_open_15.2.2.2.1
theorem dX2_open_23 : decode cX2_open 23 = .ok (.aload_n 0, 1) := gdX2_open_15.2.2.2.2.1
theorem dX2_open_24 : decode cX2_open 24 = .ok (.getfield 9, 3) := gdX2_open_15.2.2.2.2.2.1
theorem dX2_open_27 : decode cX2_open 27 = .ok (.invokevirtual 40, 3) := gdX2_open_15.2.2.2.2.2.2.1
theorem dX2_open_30 : decode cX2_open 30 = .ok (.return_, 1) := gdX2_open_15.2.2.2.2.2.2.2
theorem jX0_kindOf_X0 : ∀ w ∈ u_ws RX0 TX0 3, w ∈ wsX0_kindOf := fun w h => List.mem_cons_of_mem _ (List.mem_append_left _ (List.mem_append_right _ h))
theorem jX2_earnings_X1 : ∀ w ∈ u_ws RX1 TX1 12, w ∈ wsX2_earnings := fun w h => List.mem_cons_of_mem _ (List.mem_append_left _ (List.mem_append_left _ (List.mem_append_right _ h)))
theorem jX2_earnings_X2 : ∀ w ∈ u_ws RX2 TX2 5, w ∈ wsX2_earnings := fun w h => List.mem_cons_of_mem _ (List.mem_append_left _ (List.mem_append_left _ (List.mem_append_left _ (List.mem_append_right _ h))))
theorem jX2_open_X1 : ∀ w ∈ u_ws RX1 TX1 12, w ∈ wsX2_open := fun w h => List.mem_cons_of_mem _ (List.mem_append_left _ (List.mem_append_right _ h))
theorem jX2_open_X2 : ∀ w ∈ u_ws RX2 TX2 5, w ∈ wsX2_open := fun w h => List.mem_cons_of_mem _ (List.mem_append_left _ (List.mem_append_left _ (List.mem_append_right _ h)))
theorem hdV_X0_kindOf : yX0_kindOf.cls = RX0 ∧ yX0_kindOf.cls ≠ "java/lang/invoke/MethodHandle" ∧ yX0_kindOf.cls ≠ "java/lang/invoke/VarHandle" ∧ (parseMethodDescriptor yX0_kindOf.desc).map (fun d => d.parameters.length) = some 1 := by decide +kernel
theorem hdV_X1_priceAt : yX1_priceAt.cls = RX1 ∧ yX1_priceAt.cls ≠ "java/lang/invoke/MethodHandle" ∧ yX1_priceAt.cls ≠ "java/lang/invoke/VarHandle" ∧ (parseMethodDescriptor yX1_priceAt.desc).map (fun d => d.parameters.length) = some 1 := by decide +kernel
theorem hdV_X7_regard : yX7_regard.cls = RX7 ∧ yX7_regard.cls ≠ "java/lang/invoke/MethodHandle" ∧ yX7_regard.cls ≠ "java/lang/invoke/VarHandle" ∧ (parseMethodDescriptor yX7_regard.desc).map (fun d => d.parameters.length) = some 2 := by decide +kernel
theorem hdV_X7_timesPaid : yX7_timesPaid.cls = RX7 ∧ yX7_timesPaid.cls ≠ "java/lang/invoke/MethodHandle" ∧ yX7_timesPaid.cls ≠ "java/lang/invoke/VarHandle" ∧ (parseMethodDescriptor yX7_timesPaid.desc).map (fun d => d.parameters.length) = some 2 := by decide +kernel
set_option maxHeartbeats 4000000 in
set_option maxRecDepth 100000 in
theorem s_X0_kindOf (l : Launch) (D : va_G) (cI cZ cC cS : ClassId) (sq : Nat → Nat) (sz : Nat) (ak : Nat) (ct : Nat) (aCells : Nat) (aPrices : Nat) (k : Int32) (bo : Nat) (tc : Int32) (cw : Int32) (ch : Int32) (cp : Int32) (aFree : Nat) (aPlaces : Nat) (aHomes : Nat) (aManners : Nat) (aGone : Nat) (aPaid : Nat) (aBlinks : Nat) (fc : Nat → Int32) (fp : Nat → Int32) (hrg_fc : rng fc 80 (-1) (8)) (hw : 0 ≤ cw.toInt ∧ cw.toInt ≤ 10) (hh : 0 ≤ ch.toInt ∧ ch.toInt ≤ 8) : mI l yX0_kindOf wsX0_kindOf 3 120 D (tyW cI cZ cC cS) sq [(ak, .inr (0, [.ref ct, .ref bo, .int tc])), (ct, .inr (1, [.int cw, .int ch, .int cp, .ref aCells, .ref aPrices, .ref aFree, .ref aPlaces, .ref aHomes, .ref aManners, .ref aGone, .ref aPaid, .ref aBlinks])), (aCells, .inl (cI, 80, .inl fc)), (aPrices, .inl (cI, 6, .inl fp))] sz [.ref ak, .int k] (fun r w => ((1 ≤ r.toInt ∧ r.toInt ≤ 5) ∧ (kdX cw.toInt ch.toInt fc fp k.toInt r.toInt) ∧ w = [(ak, .inr (0, [.ref ct, .ref bo, .int tc])), (ct, .inr (1, [.int cw, .int ch, .int cp, .ref aCells, .ref aPrices, .ref aFree, .ref aPlaces, .ref aHomes, .ref aManners, .ref aGone, .ref aPaid, .ref aBlinks])), (aCells, .inl (cI, 80, .inl fc)), (aPrices, .inl (cI, 6, .inl fp))])) := by
  refine b_metI (cc := cX0_kindOf) (maxL := 2) (ret := (some .int)) (by decide) rfl (Nat.le_of_ble_eq_true rfl) ?_
  intro p e s m below meth c ls A H X hsz hP hK hT hD hA hS hl
  have S : CallFix p m c cX0_kindOf 2 s ([.ref ak, .int k] : List Value).toArray wsX0_kindOf RX0 := X.1
  have hl : lv_has ls 2 [(0, .ref ak), (1, .int k)] := hl
  have iX0 := jX0_kindOf_X0
  refine lv_aload_n S.1 S.2.1 dX0_kindOf_0 rfl (lv_at hl 0 rfl) ?_
  refine b_get (v := .ref ct) S iX0 hK hP 0 rfl rfl 0 (by decide) (by decide +kernel) rfl dX0_kindOf_1 ?_
  refine lv_iload_n S.1 S.2.1 dX0_kindOf_4 rfl (lv_at hl 1 rfl) ?_
  refine b_ai (wr := [(ak, .inr (0, [.ref ct, .ref bo, .int tc])), (aPrices, .inl (cI, 6, .inl fp))]) (b_runV (q0 := 1) (ci := 1) (As := [.int k]) (s_X1_ownerOf l D cI cZ cC cS sq H.size ct aCells k cw ch cp aPrices aFree aPlaces aHomes aManners aGone aPaid aBlinks fc (by first | with_reducible assumption | assumption | omega | decide | (rw [show Int32.toInt 0 = 0 from rfl]; omega)) (by first | with_reducible assumption | omega | assumption | decide | (rw [show Int32.toInt 0 = 0 from rfl]; omega)) (by first | with_reducible assumption | omega | assumption | decide | (rw [show Int32.toInt 0 = 0 from rfl]; omega))) S gX0_kindOf_X1_ownerOf rfl hdV_X1_ownerOf ⟨Nat.le_of_ble_eq_true rfl, Nat.le_of_ble_eq_true rfl⟩ ⟨Nat.le_of_ble_eq_true rfl, Nat.le_of_ble_eq_true rfl⟩ hK hT hS hA hP hD rfl rfl [1, 2] rfl (by decide) rfl hl.1 rfl (Nat.le_of_ble_eq_true rfl) dX0_kindOf_5) hP hD hS hA [1, 2] [0, 3] rfl rfl (by decide) (by decide) (fun r_1 w_2 H locs hw_3 hP hD hS => ?_)
  obtain ⟨hf_4, hf_5, rfl⟩ := hw_3
  have hP : va_P D vwCl [(ak, .inr (0, [.ref ct, .ref bo, .int tc])), (aPrices, .inl (cI, 6, .inl fp)), (ct, .inr (1, [.int cw, .int ch, .int cp, .ref aCells, .ref aPrices, .ref aFree, .ref aPlaces, .ref aHomes, .ref aManners, .ref aGone, .ref aPaid, .ref aBlinks])), (aCells, .inl (cI, 80, .inl fc))] H := hP
  have hD : va_D A [(ak, .inr (0, [.ref ct, .ref bo, .int tc])), (aPrices, .inl (cI, 6, .inl fp)), (ct, .inr (1, [.int cw, .int ch, .int cp, .ref aCells, .ref aPrices, .ref aFree, .ref aPlaces, .ref aHomes, .ref aManners, .ref aGone, .ref aPaid, .ref aBlinks])), (aCells, .inl (cI, 80, .inl fc))] := hD
  refine lv_bipush (v := (6)) S.1 S.2.1 dX0_kindOf_8 (by decide) ?_
  refine lv_icmp_eq (tgt := 32) S.1 S.2.1 dX0_kindOf_10 (by decide) (fun c_6 => ?_) (fun c_6 => ?_)
  · rw [eq2 (a := r_1) (b := 6) (A := r_1.toInt) (B := 6) rfl rfl] at c_6
    refine lv_aload_n S.1 S.2.1 dX0_kindOf_32 rfl (lv_at hl 0 rfl) ?_
    refine b_get (v := .ref ct) S iX0 hK hP 0 rfl rfl 0 (by decide) (by decide +kernel) rfl dX0_kindOf_33 ?_
    refine lv_iload_n S.1 S.2.1 dX0_kindOf_36 rfl (lv_at hl 1 rfl) ?_
    refine b_ai (wr := [(ak, .inr (0, [.ref ct, .ref bo, .int tc])), (aPrices, .inl (cI, 6, .inl fp))]) (b_runV (q0 := 2) (ci := 1) (As := [.int k]) (s_X1_isMirror l D cI cZ cC cS sq H.size ct aCells k cw ch cp aPrices aFree aPlaces aHomes aManners aGone aPaid aBlinks fc (by first | with_reducible assumption | assumption | omega | decide | (rw [show Int32.toInt 0 = 0 from rfl]; omega)) (by first | with_reducible assumption | omega | assumption | decide | (rw [show Int32.toInt 0 = 0 from rfl]; omega)) (by first | with_reducible assumption | omega | assumption | decide | (rw [show Int32.toInt 0 = 0 from rfl]; omega))) S gX0_kindOf_X1_isMirror rfl hdV_X1_isMirror ⟨Nat.le_of_ble_eq_true rfl, Nat.le_of_ble_eq_true rfl⟩ ⟨Nat.le_of_ble_eq_true rfl, Nat.le_of_ble_eq_true rfl⟩ hK hT hS hA hP hD rfl rfl [2, 3] rfl (by decide) rfl hl.1 rfl (Nat.le_of_ble_eq_true rfl) dX0_kindOf_37) hP hD hS hA [2, 3] [0, 1] rfl rfl (by decide) (by decide) (fun r_7 w_8 H locs hw_9 hP hD hS => ?_)
    rcases hw_9 with ⟨hf_10, hf_11, rfl, rfl⟩ | ⟨hf_12, rfl, rfl⟩
    · have hP : va_P D vwCl [(ak, .inr (0, [.ref ct, .ref bo, .int tc])), (aPrices, .inl (cI, 6, .inl fp)), (ct, .inr (1, [.int cw, .int ch, .int cp, .ref aCells, .ref aPrices, .ref aFree, .ref aPlaces, .ref aHomes, .ref aManners, .ref aGone, .ref aPaid, .ref aBlinks])), (aCells, .inl (cI, 80, .inl fc))] H := hP
      have hD : va_D A [(ak, .inr (0, [.ref ct, .ref bo, .int tc])), (aPrices, .inl (cI, 6, .inl fp)), (ct, .inr (1, [.int cw, .int ch, .int cp, .ref aCells, .ref aPrices, .ref aFree, .ref aPlaces, .ref aHomes, .ref aManners, .ref aGone, .ref aPaid, .ref aBlinks])), (aCells, .inl (cI, 80, .inl fc))] := hD
      refine lv_if_eq (tgt := 45) S.1 S.2.1 dX0_kindOf_40 (by decide) (fun c_13 => absurd c_13 (by decide)) (fun c_13 => ?_)
      refine lv_iconst (v := (4)) S.1 S.2.1 dX0_kindOf_43 (by decide) ?_
      have hP := hP.sub (ws' := [(ak, .inr (0, [.ref ct, .ref bo, .int tc])), (ct, .inr (1, [.int cw, .int ch, .int cp, .ref aCells, .ref aPrices, .ref aFree, .ref aPlaces, .ref aHomes, .ref aManners, .ref aGone, .ref aPaid, .ref aBlinks])), (aCells, .inl (cI, 80, .inl fc)), (aPrices, .inl (cI, 6, .inl fp))]) [0, 2, 3, 1] rfl
      have hD := hD.sub (ws' := [(ak, .inr (0, [.ref ct, .ref bo, .int tc])), (ct, .inr (1, [.int cw, .int ch, .int cp, .ref aCells, .ref aPrices, .ref aFree, .ref aPlaces, .ref aHomes, .ref aManners, .ref aGone, .ref aPaid, .ref aBlinks])), (aCells, .inl (cI, 80, .inl fc)), (aPrices, .inl (cI, 6, .inl fp))]) [0, 2, 3, 1] (by decide) rfl
      have lq4 : Int32.toInt (4) = 4 := by decide
      exact b_iret S.1 S.2.1 X.2.1 X.2.2.1 hP hD hS ⟨(by first | with_reducible assumption | omega | assumption | decide | (rw [show Int32.toInt 0 = 0 from rfl]; omega)), (by unfold kdX; omega), rfl⟩ dX0_kindOf_44
    · have hP : va_P D vwCl [(ak, .inr (0, [.ref ct, .ref bo, .int tc])), (aPrices, .inl (cI, 6, .inl fp)), (ct, .inr (1, [.int cw, .int ch, .int cp, .ref aCells, .ref aPrices, .ref aFree, .ref aPlaces, .ref aHomes, .ref aManners, .ref aGone, .ref aPaid, .ref aBlinks])), (aCells, .inl (cI, 80, .inl fc))] H := hP
      have hD : va_D A [(ak, .inr (0, [.ref ct, .ref bo, .int tc])), (aPrices, .inl (cI, 6, .inl fp)), (ct, .inr (1, [.int cw, .int ch, .int cp, .ref aCells, .ref aPrices, .ref aFree, .ref aPlaces, .ref aHomes, .ref aManners, .ref aGone, .ref aPaid, .ref aBlinks])), (aCells, .inl (cI, 80, .inl fc))] := hD
      refine lv_if_eq (tgt := 45) S.1 S.2.1 dX0_kindOf_40 (by decide) (fun c_14 => ?_) (fun c_14 => absurd c_14 (by decide))
      refine lv_aload_n S.1 S.2.1 dX0_kindOf_45 rfl (lv_at hl 0 rfl) ?_
      refine b_get (v := .ref ct) S iX0 hK hP 0 rfl rfl 0 (by decide) (by decide +kernel) rfl dX0_kindOf_46 ?_
      refine lv_iload_n S.1 S.2.1 dX0_kindOf_49 rfl (lv_at hl 1 rfl) ?_
      refine b_ai (wr := [(ak, .inr (0, [.ref ct, .ref bo, .int tc])), (aPrices, .inl (cI, 6, .inl fp))]) (b_runV (q0 := 2) (ci := 1) (As := [.int k]) (s_X1_isOpen l D cI cZ cC cS sq H.size ct aCells k cw ch cp aPrices aFree aPlaces aHomes aManners aGone aPaid aBlinks fc (by first | with_reducible assumption | assumption | omega | decide | (rw [show Int32.toInt 0 = 0 from rfl]; omega)) (by first | with_reducible assumption | omega | assumption | decide | (rw [show Int32.toInt 0 = 0 from rfl]; omega)) (by first | with_reducible assumption | omega | assumption | decide | (rw [show Int32.toInt 0 = 0 from rfl]; omega))) S gX0_kindOf_X1_isOpen rfl hdV_X1_isOpen ⟨Nat.le_of_ble_eq_true rfl, Nat.le_of_ble_eq_true rfl⟩ ⟨Nat.le_of_ble_eq_true rfl, Nat.le_of_ble_eq_true rfl⟩ hK hT hS hA hP hD rfl rfl [2, 3] rfl (by decide) rfl hl.1 rfl (Nat.le_of_ble_eq_true rfl) dX0_kindOf_50) hP hD hS hA [2, 3] [0, 1] rfl rfl (by decide) (by decide) (fun r_15 w_16 H locs hw_17 hP hD hS => ?_)
      rcases hw_17 with ⟨hf_18, hf_19, rfl, rfl⟩ | ⟨hf_20, rfl, rfl⟩
      · have hP : va_P D vwCl [(ak, .inr (0, [.ref ct, .ref bo, .int tc])), (aPrices, .inl (cI, 6, .inl fp)), (ct, .inr (1, [.int cw, .int ch, .int cp, .ref aCells, .ref aPrices, .ref aFree, .ref aPlaces, .ref aHomes, .ref aManners, .ref aGone, .ref aPaid, .ref aBlinks])), (aCells, .inl (cI, 80, .inl fc))] H := hP
        have hD : va_D A [(ak, .inr (0, [.ref ct, .ref bo, .int tc])), (aPrices, .inl (cI, 6, .inl fp)), (ct, .inr (1, [.int cw, .int ch, .int cp, .ref aCells, .ref aPrices, .ref aFree, .ref aPlaces, .ref aHomes, .ref aManners, .ref aGone, .ref aPaid, .ref aBlinks])), (aCells, .inl (cI, 80, .inl fc))] := hD
        refine lv_if_eq (tgt := 60) S.1 S.2.1 dX0_kindOf_53 (by decide) (fun c_21 => absurd c_21 (by decide)) (fun c_21 => ?_)
        refine lv_iconst (v := (1)) S.1 S.2.1 dX0_kindOf_56 (by decide) ?_
        refine lv_goto (tgt := 61) S.1 S.2.1 dX0_kindOf_57 (by decide) ?_
        have hP := hP.sub (ws' := [(ak, .inr (0, [.ref ct, .ref bo, .int tc])), (ct, .inr (1, [.int cw, .int ch, .int cp, .ref aCells, .ref aPrices, .ref aFree, .ref aPlaces, .ref aHomes, .ref aManners, .ref aGone, .ref aPaid, .ref aBlinks])), (aCells, .inl (cI, 80, .inl fc)), (aPrices, .inl (cI, 6, .inl fp))]) [0, 2, 3, 1] rfl
        have hD := hD.sub (ws' := [(ak, .inr (0, [.ref ct, .ref bo, .int tc])), (ct, .inr (1, [.int cw, .int ch, .int cp, .ref aCells, .ref aPrices, .ref aFree, .ref aPlaces, .ref aHomes, .ref aManners, .ref aGone, .ref aPaid, .ref aBlinks])), (aCells, .inl (cI, 80, .inl fc)), (aPrices, .inl (cI, 6, .inl fp))]) [0, 2, 3, 1] (by decide) rfl
        have lq1 : Int32.toInt (1) = 1 := by decide
        exact b_iret S.1 S.2.1 X.2.1 X.2.2.1 hP hD hS ⟨(by first | with_reducible assumption | omega | assumption | decide | (rw [show Int32.toInt 0 = 0 from rfl]; omega)), (by unfold kdX; omega), rfl⟩ dX0_kindOf_61
      · have hP : va_P D vwCl [(ak, .inr (0, [.ref ct, .ref bo, .int tc])), (aPrices, .inl (cI, 6, .inl fp)), (ct, .inr (1, [.int cw, .int ch, .int cp, .ref aCells, .ref aPrices, .ref aFree, .ref aPlaces, .ref aHomes, .ref aManners, .ref aGone, .ref aPaid, .ref aBlinks])), (aCells, .inl (cI, 80, .inl fc))] H := hP
        have hD : va_D A [(ak, .inr (0, [.ref ct, .ref bo, .int tc])), (aPrices, .inl (cI, 6, .inl fp)), (ct, .inr (1, [.int cw, .int ch, .int cp, .ref aCells, .ref aPrices, .ref aFree, .ref aPlaces, .ref aHomes, .ref aManners, .ref aGone, .ref aPaid, .ref aBlinks])), (aCells, .inl (cI, 80, .inl fc))] := hD
        refine lv_if_eq (tgt := 60) S.1 S.2.1 dX0_kindOf_53 (by decide) (fun c_22 => ?_) (fun c_22 => absurd c_22 (by decide))
        refine lv_iconst (v := (2)) S.1 S.2.1 dX0_kindOf_60 (by decide) ?_
        have hP := hP.sub (ws' := [(ak, .inr (0, [.ref ct, .ref bo, .int tc])), (ct, .inr (1, [.int cw, .int ch, .int cp, .ref aCells, .ref aPrices, .ref aFree, .ref aPlaces, .ref aHomes, .ref aManners, .ref aGone, .ref aPaid, .ref aBlinks])), (aCells, .inl (cI, 80, .inl fc)), (aPrices, .inl (cI, 6, .inl fp))]) [0, 2, 3, 1] rfl
        have hD := hD.sub (ws' := [(ak, .inr (0, [.ref ct, .ref bo, .int tc])), (ct, .inr (1, [.int cw, .int ch, .int cp, .ref aCells, .ref aPrices, .ref aFree, .ref aPlaces, .ref aHomes, .ref aManners, .ref aGone, .ref aPaid, .ref aBlinks])), (aCells, .inl (cI, 80, .inl fc)), (aPrices, .inl (cI, 6, .inl fp))]) [0, 2, 3, 1] (by decide) rfl
        have lq2 : Int32.toInt (2) = 2 := by decide
        exact b_iret S.1 S.2.1 X.2.1 X.2.2.1 hP hD hS ⟨(by first | with_reducible assumption | omega | assumption | decide | (rw [show Int32.toInt 0 = 0 from rfl]; omega)), (by unfold kdX; omega), rfl⟩ dX0_kindOf_61
  · rw [eq2 (a := r_1) (b := 6) (A := r_1.toInt) (B := 6) rfl rfl] at c_6
    refine lv_aload_n S.1 S.2.1 dX0_kindOf_13 rfl (lv_at hl 0 rfl) ?_
    refine b_get (v := .ref ct) S iX0 hK hP 0 rfl rfl 0 (by decide) (by decide +kernel) rfl dX0_kindOf_14 ?_
    refine lv_iload_n S.1 S.2.1 dX0_kindOf_17 rfl (lv_at hl 1 rfl) ?_
    refine b_ai (wr := [(ak, .inr (0, [.ref ct, .ref bo, .int tc]))]) (b_runV (q0 := 2) (ci := 1) (As := [.int k]) (s_X1_priceAt l D cI cZ cC cS sq H.size ct aCells aPrices k cw ch cp aFree aPlaces aHomes aManners aGone aPaid aBlinks fc fp (by first | with_reducible assumption | assumption | omega | decide | (rw [show Int32.toInt 0 = 0 from rfl]; omega)) (by first | with_reducible assumption | omega | assumption | decide | (rw [show Int32.toInt 0 = 0 from rfl]; omega)) (by first | with_reducible assumption | omega | assumption | decide | (rw [show Int32.toInt 0 = 0 from rfl]; omega))) S gX0_kindOf_X1_priceAt rfl hdV_X1_priceAt ⟨Nat.le_of_ble_eq_true rfl, Nat.le_of_ble_eq_true rfl⟩ ⟨Nat.le_of_ble_eq_true rfl, Nat.le_of_ble_eq_true rfl⟩ hK hT hS hA hP hD rfl rfl [2, 3, 1] rfl (by decide) rfl hl.1 rfl (Nat.le_of_ble_eq_true rfl) dX0_kindOf_18) hP hD hS hA [2, 3, 1] [0] rfl rfl (by decide) (by decide) (fun r_23 w_24 H locs hw_25 hP hD hS => ?_)
    obtain ⟨hf_26, rfl⟩ := hw_25
    have hP : va_P D vwCl [(ak, .inr (0, [.ref ct, .ref bo, .int tc])), (ct, .inr (1, [.int cw, .int ch, .int cp, .ref aCells, .ref aPrices, .ref aFree, .ref aPlaces, .ref aHomes, .ref aManners, .ref aGone, .ref aPaid, .ref aBlinks])), (aCells, .inl (cI, 80, .inl fc)), (aPrices, .inl (cI, 6, .inl fp))] H := hP
    have hD : va_D A [(ak, .inr (0, [.ref ct, .ref bo, .int tc])), (ct, .inr (1, [.int cw, .int ch, .int cp, .ref aCells, .ref aPrices, .ref aFree, .ref aPlaces, .ref aHomes, .ref aManners, .ref aGone, .ref aPaid, .ref aBlinks])), (aCells, .inl (cI, 80, .inl fc)), (aPrices, .inl (cI, 6, .inl fp))] := hD
    refine lv_bipush (v := (50)) S.1 S.2.1 dX0_kindOf_21 (by decide) ?_
    refine lv_icmp_lt (tgt := 30) S.1 S.2.1 dX0_kindOf_23 (by decide) (fun c_27 => ?_) (fun c_27 => ?_)
    · rw [lt2 (a := r_23) (b := 50) (A := r_23.toInt) (B := 50) rfl rfl] at c_27
      refine lv_iconst (v := (3)) S.1 S.2.1 dX0_kindOf_30 (by decide) ?_
      have lq3 : Int32.toInt (3) = 3 := by decide
      exact b_iret S.1 S.2.1 X.2.1 X.2.2.1 hP hD hS ⟨(by first | with_reducible assumption | omega | assumption | decide | (rw [show Int32.toInt 0 = 0 from rfl]; omega)), (by unfold kdX; omega), rfl⟩ dX0_kindOf_31
    · rw [lt2 (a := r_23) (b := 50) (A := r_23.toInt) (B := 50) rfl rfl] at c_27
      refine lv_iconst (v := (5)) S.1 S.2.1 dX0_kindOf_26 (by decide) ?_
      refine lv_goto (tgt := 31) S.1 S.2.1 dX0_kindOf_27 (by decide) ?_
      have lq5 : Int32.toInt (5) = 5 := by decide
      exact b_iret S.1 S.2.1 X.2.1 X.2.2.1 hP hD hS ⟨(by first | with_reducible assumption | omega | assumption | decide | (rw [show Int32.toInt 0 = 0 from rfl]; omega)), (by unfold kdX; omega), rfl⟩ dX0_kindOf_31
theorem wid_st {own x : Int32} (h : 1 ≤ own.toInt ∧ own.toInt ≤ 5) (e : x = widerL.getD own.toNatClampNeg 0) : (own.toInt = 1 ∧ x.toInt = 0) ∨ (own.toInt = 2 ∧ x.toInt = 0) ∨ (own.toInt = 3 ∧ x.toInt = 2) ∨ (own.toInt = 4 ∧ x.toInt = 2) ∨ (own.toInt = 5 ∧ x.toInt = 3) := by
  have h3 : own.toNatClampNeg = own.toInt.toNat := rfl
  rcases (show own.toInt = 1 ∨ own.toInt = 2 ∨ own.toInt = 3 ∨ own.toInt = 4 ∨ own.toInt = 5 by omega) with q | q | q | q | q
  · rw [h3, q] at e; rw [e]; exact Or.inl ⟨q, rfl⟩
  · rw [h3, q] at e; rw [e]; exact Or.inr (Or.inl ⟨q, rfl⟩)
  · rw [h3, q] at e; rw [e]; exact Or.inr (Or.inr (Or.inl ⟨q, rfl⟩))
  · rw [h3, q] at e; rw [e]; exact Or.inr (Or.inr (Or.inr (Or.inl ⟨q, rfl⟩)))
  · rw [h3, q] at e; rw [e]; exact Or.inr (Or.inr (Or.inr (Or.inr ⟨q, rfl⟩)))
set_option maxHeartbeats 4000000 in
set_option maxRecDepth 100000 in
theorem lp_isA {p : Program} (l : Launch) {e : Env} {s : State} {m : MethodId} {below : List Frame} {meth : Method} {c : Code} (D : va_G) (cI cZ cC cS : ClassId) (sq : Nat → Nat) (ak : Nat) (ct : Nat) (aCells : Nat) (aPrices : Nat) (k : Int32) (kd : Int32) (bo : Nat) (tc : Int32) (cw : Int32) (ch : Int32) (cp : Int32) (aFree : Nat) (aPlaces : Nat) (aHomes : Nat) (aManners : Nat) (aGone : Nat) (aPaid : Nat) (aBlinks : Nat) (fc : Nat → Int32) (fp : Nat → Int32) (hrg_fc : rng fc 80 (-1) (8)) (hw : 0 ≤ cw.toInt ∧ cw.toInt ≤ 10) (hh : 0 ≤ ch.toInt ∧ ch.toInt ≤ 8) {A : Nat → Prop} (X : bX p s m meth c cX0_isA 5 wsX0_isA yX0_isA (some .boolean) [.ref ak, .int k, .int kd]) (hK : kW D (tyW cI cZ cC cS) sq s) (hT : sT sq A s s.heap) (hA : ∀ q, s.heap.size ≤ q → A q) (K : ∀ (i : Int32) (ow : Int32), (rng fc 80 (-1) (8)) → (0 ≤ i.toInt ∧ i.toInt ≤ 6) → (0 ≤ ow.toInt ∧ ow.toInt ≤ 5) → (∃ q : Int, kdX cw.toInt ch.toInt fc fp k.toInt q ∧ (isP q kd.toInt ↔ isP ow.toInt kd.toInt) ∧ ow.toInt + i.toInt ≤ 5) → (6 ≤ i.toInt ∨ ow.toInt ≤ 0 ∨ ow.toInt = kd.toInt) → ∀ (H : Heap) (locs : List Loc) (ls : Array Slot), va_P D vwCl [(ak, .inr (0, [.ref ct, .ref bo, .int tc])), (ct, .inr (1, [.int cw, .int ch, .int cp, .ref aCells, .ref aPrices, .ref aFree, .ref aPlaces, .ref aHomes, .ref aManners, .ref aGone, .ref aPaid, .ref aBlinks])), (aCells, .inl (cI, 80, .inl fc)), (aPrices, .inl (cI, 6, .inl fp))] H → va_D A [(ak, .inr (0, [.ref ct, .ref bo, .int tc])), (ct, .inr (1, [.int cw, .int ch, .int cp, .ref aCells, .ref aPrices, .ref aFree, .ref aPlaces, .ref aHomes, .ref aManners, .ref aGone, .ref aPaid, .ref aBlinks])), (aCells, .inl (cI, 80, .inl fc)), (aPrices, .inl (cI, 6, .inl fp))] → va_S A s.heap H locs → lv_has ls 5 [(4, .int i), (3, .int ow), (0, .ref ak), (1, .int k), (2, .int kd)] → W p l e (rmW 4 160 0 0) s m ([.ref ak, .int k, .int kd] : List Value).toArray below meth c H locs 0 0 (MQ below (va_Qi (fun r w => ((∃ q : Int, kdX cw.toInt ch.toInt fc fp k.toInt q ∧ isP q kd.toInt) ∧ r = 1 ∧ w = [(ak, .inr (0, [.ref ct, .ref bo, .int tc])), (ct, .inr (1, [.int cw, .int ch, .int cp, .ref aCells, .ref aPrices, .ref aFree, .ref aPlaces, .ref aHomes, .ref aManners, .ref aGone, .ref aPaid, .ref aBlinks])), (aCells, .inl (cI, 80, .inl fc)), (aPrices, .inl (cI, 6, .inl fp))]) ∨ ((∃ q : Int, kdX cw.toInt ch.toInt fc fp k.toInt q ∧ ¬ isP q kd.toInt) ∧ r = 0 ∧ w = [(ak, .inr (0, [.ref ct, .ref bo, .int tc])), (ct, .inr (1, [.int cw, .int ch, .int cp, .ref aCells, .ref aPrices, .ref aFree, .ref aPlaces, .ref aHomes, .ref aManners, .ref aGone, .ref aPaid, .ref aBlinks])), (aCells, .inl (cI, 80, .inl fc)), (aPrices, .inl (cI, 6, .inl fp))])) (wD D A) A) ([.ref ak, .int k, .int kd] : List Value).toArray s 0 0 A) (F0 m 37 ls [])) : ∀ (mN : Nat) (i : Int32) (ow : Int32), (rng fc 80 (-1) (8)) → (0 ≤ i.toInt ∧ i.toInt ≤ 6) → (0 ≤ ow.toInt ∧ ow.toInt ≤ 5) → (∃ q : Int, kdX cw.toInt ch.toInt fc fp k.toInt q ∧ (isP q kd.toInt ↔ isP ow.toInt kd.toInt) ∧ ow.toInt + i.toInt ≤ 5) → ((6 - i.toInt).toNat < mN) → ∀ (H : Heap) (locs : List Loc) (ls : Array Slot), va_P D vwCl [(ak, .inr (0, [.ref ct, .ref bo, .int tc])), (ct, .inr (1, [.int cw, .int ch, .int cp, .ref aCells, .ref aPrices, .ref aFree, .ref aPlaces, .ref aHomes, .ref aManners, .ref aGone, .ref aPaid, .ref aBlinks])), (aCells, .inl (cI, 80, .inl fc)), (aPrices, .inl (cI, 6, .inl fp))] H → va_D A [(ak, .inr (0, [.ref ct, .ref bo, .int tc])), (ct, .inr (1, [.int cw, .int ch, .int cp, .ref aCells, .ref aPrices, .ref aFree, .ref aPlaces, .ref aHomes, .ref aManners, .ref aGone, .ref aPaid, .ref aBlinks])), (aCells, .inl (cI, 80, .inl fc)), (aPrices, .inl (cI, 6, .inl fp))] → va_S A s.heap H locs → lv_has ls 5 [(4, .int i), (3, .int ow), (0, .ref ak), (1, .int k), (2, .int kd)] → W p l e (rmW 4 160 0 0) s m ([.ref ak, .int k, .int kd] : List Value).toArray below meth c H locs 0 0 (MQ below (va_Qi (fun r w => ((∃ q : Int, kdX cw.toInt ch.toInt fc fp k.toInt q ∧ isP q kd.toInt) ∧ r = 1 ∧ w = [(ak, .inr (0, [.ref ct, .ref bo, .int tc])), (ct, .inr (1, [.int cw, .int ch, .int cp, .ref aCells, .ref aPrices, .ref aFree, .ref aPlaces, .ref aHomes, .ref aManners, .ref aGone, .ref aPaid, .ref aBlinks])), (aCells, .inl (cI, 80, .inl fc)), (aPrices, .inl (cI, 6, .inl fp))]) ∨ ((∃ q : Int, kdX cw.toInt ch.toInt fc fp k.toInt q ∧ ¬ isP q kd.toInt) ∧ r = 0 ∧ w = [(ak, .inr (0, [.ref ct, .ref bo, .int tc])), (ct, .inr (1, [.int cw, .int ch, .int cp, .ref aCells, .ref aPrices, .ref aFree, .ref aPlaces, .ref aHomes, .ref aManners, .ref aGone, .ref aPaid, .ref aBlinks])), (aCells, .inl (cI, 80, .inl fc)), (aPrices, .inl (cI, 6, .inl fp))])) (wD D A) A) ([.ref ak, .int k, .int kd] : List Value).toArray s 0 0 A) (F0 m 9 ls []) := by
  have S : CallFix p m c cX0_isA 5 s ([.ref ak, .int k, .int kd] : List Value).toArray wsX0_isA RX0 := X.1
  intro mN
  induction mN with
  | zero => intro i ow hrg_fc hi ho hq hm; exact absurd hm (Nat.not_lt_zero _)
  | succ mN ih =>
    intro i ow hrg_fc hi ho hq hm H locs ls hP hD hS hl
    refine lv_iload S.1 S.2.1 dX0_isA_9 (lv_at hl 0 rfl) ?_
    refine lv_bipush (v := (6)) S.1 S.2.1 dX0_isA_11 (by decide) ?_
    refine lv_icmp_ge (tgt := 37) S.1 S.2.1 dX0_isA_13 (by decide) (fun c_101 => ?_) (fun c_101 => ?_)
    · rw [le2 (a := 6) (b := i) (A := 6) (B := i.toInt) rfl rfl] at c_101
      exact K i ow (by first | with_reducible assumption | assumption | omega | decide | (rw [show Int32.toInt 0 = 0 from rfl]; omega)) (by first | with_reducible assumption | omega | assumption | decide | (rw [show Int32.toInt 0 = 0 from rfl]; omega)) (by first | with_reducible assumption | omega | assumption | decide | (rw [show Int32.toInt 0 = 0 from rfl]; omega)) (by first | assumption | exact isA_st hq (by assumption) (by assumption) (by omega)) (by first | exact Or.inl (by omega) | exact Or.inr (Or.inl (by omega)) | exact Or.inr (Or.inr (by omega))) H _ ls hP hD hS (lv_sub hl [0, 1, 2, 3, 4] rfl)
    · rw [le2 (a := 6) (b := i) (A := 6) (B := i.toInt) rfl rfl] at c_101
      refine lv_iload_n S.1 S.2.1 dX0_isA_16 rfl (lv_at hl 1 rfl) ?_
      refine lv_if_le (tgt := 37) S.1 S.2.1 dX0_isA_17 (by decide) (fun c_102 => ?_) (fun c_102 => ?_)
      · rw [le2 (a := ow) (b := 0) (A := ow.toInt) (B := 0) rfl rfl] at c_102
        exact K i ow (by first | with_reducible assumption | assumption | omega | decide | (rw [show Int32.toInt 0 = 0 from rfl]; omega)) (by first | with_reducible assumption | omega | assumption | decide | (rw [show Int32.toInt 0 = 0 from rfl]; omega)) (by first | with_reducible assumption | omega | assumption | decide | (rw [show Int32.toInt 0 = 0 from rfl]; omega)) (by first | assumption | exact isA_st hq (by assumption) (by assumption) (by omega)) (by first | exact Or.inl (by omega) | exact Or.inr (Or.inl (by omega)) | exact Or.inr (Or.inr (by omega))) H _ ls hP hD hS (lv_sub hl [0, 1, 2, 3, 4] rfl)
      · rw [le2 (a := ow) (b := 0) (A := ow.toInt) (B := 0) rfl rfl] at c_102
        refine lv_iload_n S.1 S.2.1 dX0_isA_20 rfl (lv_at hl 1 rfl) ?_
        refine lv_iload_n S.1 S.2.1 dX0_isA_21 rfl (lv_at hl 4 rfl) ?_
        refine lv_icmp_eq (tgt := 37) S.1 S.2.1 dX0_isA_22 (by decide) (fun c_103 => ?_) (fun c_103 => ?_)
        · rw [eq2 (a := ow) (b := kd) (A := ow.toInt) (B := kd.toInt) rfl rfl] at c_103
          exact K i ow (by first | with_reducible assumption | assumption | omega | decide | (rw [show Int32.toInt 0 = 0 from rfl]; omega)) (by first | with_reducible assumption | omega | assumption | decide | (rw [show Int32.toInt 0 = 0 from rfl]; omega)) (by first | with_reducible assumption | omega | assumption | decide | (rw [show Int32.toInt 0 = 0 from rfl]; omega)) (by first | assumption | exact isA_st hq (by assumption) (by assumption) (by omega)) (by first | exact Or.inl (by omega) | exact Or.inr (Or.inl (by omega)) | exact Or.inr (Or.inr (by omega))) H _ ls hP hD hS (lv_sub hl [0, 1, 2, 3, 4] rfl)
        · rw [eq2 (a := ow) (b := kd) (A := ow.toInt) (B := kd.toInt) rfl rfl] at c_103
          refine va_gets (C := RX0) S.1 S.2.1 hT.2.2.1.1 hS S.2.2.2.1 (S.2.2.2.2 (.fieldLink RX0 42 RX0 "WIDER" "[I") (by decide +kernel)) (fun _ h => h) dX0_isA_25 ?_
          refine lv_iload_n S.1 S.2.1 dX0_isA_28 rfl (lv_at hl 1 rfl) ?_
          refine va_ti (v := .int (widerL.getD ow.toNatClampNeg 0)) S.1 S.2.1 hT.2.2.1.2 hS (in_of (n := 6) (by omega) (by omega)) rfl dX0_isA_29 ?_
          refine lv_topi (fun x_104 ex_104 => ?_)
          have tx_104 := listR (lo := -1) (hi := 3) (l := widerL) (by decide) (by decide) ex_104
          have wdx_104 := wid_st (own := ow) (by omega) ex_104
          refine lv_istore_n (lv' := [(3, .int x_104), (4, .int i), (0, .ref ak), (1, .int k), (2, .int kd)]) S.1 S.2.1 dX0_isA_30 rfl hl (by decide) rfl (fun ls hl => ?_)
          obtain ⟨x_105, ex_105⟩ : ∃ y : Int32, y = i + Int32.ofInt (1) := ⟨_, rfl⟩
          refine lv_iinc (v := x_105) (lv' := [(4, .int x_105), (3, .int x_104), (0, .ref ak), (1, .int k), (2, .int kd)]) S.1 S.2.1 dX0_isA_31 hl (k := 1) rfl ex_105.symm (by decide) rfl (fun ls hl => ?_)
          have tx_105 : x_105.toInt = i.toInt + (1) := addI (A := i.toInt) (B := 1) ex_105 rfl rfl (by omega) (by omega)
          refine lv_goto (tgt := 9) S.1 S.2.1 dX0_isA_34 (by decide) ?_
          exact ih x_105 x_104 (by first | with_reducible assumption | assumption | omega | decide | (rw [show Int32.toInt 0 = 0 from rfl]; omega)) (by first | with_reducible assumption | omega | assumption | decide | (rw [show Int32.toInt 0 = 0 from rfl]; omega)) (by first | with_reducible assumption | omega | assumption | decide | (rw [show Int32.toInt 0 = 0 from rfl]; omega)) (by first | assumption | exact isA_st hq (by assumption) (by assumption) (by omega)) (by omega) H _ ls hP hD hS (lv_sub hl [0, 1, 2, 3, 4] rfl)
set_option maxHeartbeats 4000000 in
set_option maxRecDepth 100000 in
theorem s_X0_isA (l : Launch) (D : va_G) (cI cZ cC cS : ClassId) (sq : Nat → Nat) (sz : Nat) (ak : Nat) (ct : Nat) (aCells : Nat) (aPrices : Nat) (k : Int32) (kd : Int32) (bo : Nat) (tc : Int32) (cw : Int32) (ch : Int32) (cp : Int32) (aFree : Nat) (aPlaces : Nat) (aHomes : Nat) (aManners : Nat) (aGone : Nat) (aPaid : Nat) (aBlinks : Nat) (fc : Nat → Int32) (fp : Nat → Int32) (hrg_fc : rng fc 80 (-1) (8)) (hw : 0 ≤ cw.toInt ∧ cw.toInt ≤ 10) (hh : 0 ≤ ch.toInt ∧ ch.toInt ≤ 8) : mI l yX0_isA wsX0_isA 4 160 D (tyW cI cZ cC cS) sq [(ak, .inr (0, [.ref ct, .ref bo, .int tc])), (ct, .inr (1, [.int cw, .int ch, .int cp, .ref aCells, .ref aPrices, .ref aFree, .ref aPlaces, .ref aHomes, .ref aManners, .ref aGone, .ref aPaid, .ref aBlinks])), (aCells, .inl (cI, 80, .inl fc)), (aPrices, .inl (cI, 6, .inl fp))] sz [.ref ak, .int k, .int kd] (fun r w => ((∃ q : Int, kdX cw.toInt ch.toInt fc fp k.toInt q ∧ isP q kd.toInt) ∧ r = 1 ∧ w = [(ak, .inr (0, [.ref ct, .ref bo, .int tc])), (ct, .inr (1, [.int cw, .int ch, .int cp, .ref aCells, .ref aPrices, .ref aFree, .ref aPlaces, .ref aHomes, .ref aManners, .ref aGone, .ref aPaid, .ref aBlinks])), (aCells, .inl (cI, 80, .inl fc)), (aPrices, .inl (cI, 6, .inl fp))]) ∨ ((∃ q : Int, kdX cw.toInt ch.toInt fc fp k.toInt q ∧ ¬ isP q kd.toInt) ∧ r = 0 ∧ w = [(ak, .inr (0, [.ref ct, .ref bo, .int tc])), (ct, .inr (1, [.int cw, .int ch, .int cp, .ref aCells, .ref aPrices, .ref aFree, .ref aPlaces, .ref aHomes, .ref aManners, .ref aGone, .ref aPaid, .ref aBlinks])), (aCells, .inl (cI, 80, .inl fc)), (aPrices, .inl (cI, 6, .inl fp))])) := by
  refine b_metI (cc := cX0_isA) (maxL := 5) (ret := (some .boolean)) (by decide) rfl (Nat.le_of_ble_eq_true rfl) ?_
  intro p e s m below meth c ls A H X hsz hP hK hT hD hA hS hl
  have S : CallFix p m c cX0_isA 5 s ([.ref ak, .int k, .int kd] : List Value).toArray wsX0_isA RX0 := X.1
  have hl : lv_has ls 5 [(0, .ref ak), (1, .int k), (2, .int kd)] := hl
  refine lv_aload_n S.1 S.2.1 dX0_isA_0 rfl (lv_at hl 0 rfl) ?_
  refine lv_iload_n S.1 S.2.1 dX0_isA_1 rfl (lv_at hl 1 rfl) ?_
  refine b_ai (wr := []) (b_runV (q0 := 0) (ci := 0) (As := [.int k]) (s_X0_kindOf l D cI cZ cC cS sq H.size ak ct aCells aPrices k bo tc cw ch cp aFree aPlaces aHomes aManners aGone aPaid aBlinks fc fp (by first | with_reducible assumption | assumption | omega | decide | (rw [show Int32.toInt 0 = 0 from rfl]; omega)) (by first | with_reducible assumption | omega | assumption | decide | (rw [show Int32.toInt 0 = 0 from rfl]; omega)) (by first | with_reducible assumption | omega | assumption | decide | (rw [show Int32.toInt 0 = 0 from rfl]; omega))) S gX0_isA_X0_kindOf rfl hdV_X0_kindOf ⟨Nat.le_of_ble_eq_true rfl, Nat.le_of_ble_eq_true rfl⟩ ⟨Nat.le_of_ble_eq_true rfl, Nat.le_of_ble_eq_true rfl⟩ hK hT hS hA hP hD rfl rfl [0, 1, 2, 3] rfl (by decide) rfl hl.1 rfl (Nat.le_of_ble_eq_true rfl) dX0_isA_2) hP hD hS hA [0, 1, 2, 3] [] rfl rfl (by decide) (by decide) (fun r_1 w_2 H locs hw_3 hP hD hS => ?_)
  obtain ⟨hf_4, hf_5, rfl⟩ := hw_3
  have hP : va_P D vwCl [(ak, .inr (0, [.ref ct, .ref bo, .int tc])), (ct, .inr (1, [.int cw, .int ch, .int cp, .ref aCells, .ref aPrices, .ref aFree, .ref aPlaces, .ref aHomes, .ref aManners, .ref aGone, .ref aPaid, .ref aBlinks])), (aCells, .inl (cI, 80, .inl fc)), (aPrices, .inl (cI, 6, .inl fp))] H := hP
  have hD : va_D A [(ak, .inr (0, [.ref ct, .ref bo, .int tc])), (ct, .inr (1, [.int cw, .int ch, .int cp, .ref aCells, .ref aPrices, .ref aFree, .ref aPlaces, .ref aHomes, .ref aManners, .ref aGone, .ref aPaid, .ref aBlinks])), (aCells, .inl (cI, 80, .inl fc)), (aPrices, .inl (cI, 6, .inl fp))] := hD
  refine lv_istore_n (lv' := [(3, .int r_1), (0, .ref ak), (1, .int k), (2, .int kd)]) S.1 S.2.1 dX0_isA_5 rfl hl (by decide) rfl (fun ls hl => ?_)
  refine lv_iconst (v := (0)) S.1 S.2.1 dX0_isA_6 (by decide) ?_
  refine lv_istore (lv' := [(4, .int 0), (3, .int r_1), (0, .ref ak), (1, .int k), (2, .int kd)]) S.1 S.2.1 dX0_isA_7 hl (by decide) rfl (fun ls hl => ?_)
  refine lp_isA l D cI cZ cC cS sq ak ct aCells aPrices k kd bo tc cw ch cp aFree aPlaces aHomes aManners aGone aPaid aBlinks fc fp hrg_fc hw hh X hK hT hA (fun i_6 ow_7 hi_8 hi_9 hi_10 hi_11 hi_12 H locs ls hP hD hS hl => ?_) _ (0) r_1 (by first | with_reducible assumption | assumption | omega | decide | (rw [show Int32.toInt 0 = 0 from rfl]; omega)) (by first | with_reducible assumption | omega | assumption | decide | (rw [show Int32.toInt 0 = 0 from rfl]; omega)) (by first | with_reducible assumption | omega | assumption | decide | (rw [show Int32.toInt 0 = 0 from rfl]; omega)) ⟨_, by assumption, Iff.rfl, by rw [show Int32.toInt 0 = 0 from rfl]; omega⟩ (Nat.lt_succ_self _) H _ ls hP hD hS (lv_sub hl [0, 1, 2, 3, 4] rfl)
  refine lv_iload_n S.1 S.2.1 dX0_isA_37 rfl (lv_at hl 1 rfl) ?_
  refine lv_iload_n S.1 S.2.1 dX0_isA_38 rfl (lv_at hl 4 rfl) ?_
  refine lv_icmp_ne (tgt := 46) S.1 S.2.1 dX0_isA_39 (by decide) (fun c_13 => ?_) (fun c_13 => ?_)
  · rw [eq2 (a := ow_7) (b := kd) (A := ow_7.toInt) (B := kd.toInt) rfl rfl] at c_13
    refine lv_iconst (v := (0)) S.1 S.2.1 dX0_isA_46 (by decide) ?_
    exact b_zret S.1 S.2.1 X.2.1 X.2.2.1 rfl hP hD hS (Or.inr (⟨(isA_0 (by assumption) (by assumption) (by omega) (by assumption)), rfl, rfl⟩)) dX0_isA_47
  · rw [eq2 (a := ow_7) (b := kd) (A := ow_7.toInt) (B := kd.toInt) rfl rfl] at c_13
    refine lv_iconst (v := (1)) S.1 S.2.1 dX0_isA_42 (by decide) ?_
    refine lv_goto (tgt := 47) S.1 S.2.1 dX0_isA_43 (by decide) ?_
    exact b_zret S.1 S.2.1 X.2.1 X.2.2.1 rfl hP hD hS (Or.inl ⟨(isA_1 (by assumption) (by assumption)), rfl, rfl⟩) dX0_isA_47
theorem size_v {kd x : Int32} (h : 1 ≤ kd.toInt ∧ kd.toInt ≤ 5) (e : x = sizeL.getD kd.toNatClampNeg 0) : x = szB kd.toInt := by
  have h3 : kd.toNatClampNeg = kd.toInt.toNat := rfl
  rcases (show kd.toInt = 1 ∨ kd.toInt = 2 ∨ kd.toInt = 3 ∨ kd.toInt = 4 ∨ kd.toInt = 5 by omega) with q | q | q | q | q <;> (rw [h3, q] at e; rw [e, q]; rfl)
theorem mark_v {kd x : Int32} (h : 1 ≤ kd.toInt ∧ kd.toInt ≤ 5) (e : x = markL.getD kd.toNatClampNeg 0) : x = mkB kd.toInt := by
  have h3 : kd.toNatClampNeg = kd.toInt.toNat := rfl
  rcases (show kd.toInt = 1 ∨ kd.toInt = 2 ∨ kd.toInt = 3 ∨ kd.toInt = 4 ∨ kd.toInt = 5 by omega) with q | q | q | q | q <;> (rw [h3, q] at e; rw [e, q]; rfl)
/-- the body with which an asking begins -/
def fbX (cw ch : Int) (fc fp : Nat → Int32) (k wa : Int) (r : Int32) : Prop := ∃ q : Int, kdX cw ch fc fp k q ∧ ((wa = 0 ∧ r = szB q) ∨ (¬ wa = 0 ∧ r = mkB q))
theorem kdX_u {cw ch k q p : Int} {fc fp : Nat → Int32} (h : kdX cw ch fc fp k q) (g : kdX cw ch fc fp k p) : q = p := by
  unfold kdX at h g
  omega
theorem fbX_u {cw ch k wa : Int} {fc fp : Nat → Int32} {r s : Int32} (h : fbX cw ch fc fp k wa r) (g : fbX cw ch fc fp k wa s) : r = s := by
  obtain ⟨q, h1, h2⟩ := h
  obtain ⟨p, g1, g2⟩ := g
  have e := kdX_u h1 g1
  subst e
  rcases h2 with ⟨h2, h3⟩ | ⟨h2, h3⟩ <;> rcases g2 with ⟨g2, g3⟩ | ⟨g2, g3⟩
  · exact h3.trans g3.symm
  · exact absurd h2 g2
  · exact absurd g2 h2
  · exact h3.trans g3.symm
set_option maxHeartbeats 4000000 in
set_option maxRecDepth 100000 in
theorem s_X0_firstBody (l : Launch) (D : va_G) (cI cZ cC cS : ClassId) (sq : Nat → Nat) (sz : Nat) (ak : Nat) (ct : Nat) (aCells : Nat) (aPrices : Nat) (k : Int32) (wa : Int32) (bo : Nat) (tc : Int32) (cw : Int32) (ch : Int32) (cp : Int32) (aFree : Nat) (aPlaces : Nat) (aHomes : Nat) (aManners : Nat) (aGone : Nat) (aPaid : Nat) (aBlinks : Nat) (fc : Nat → Int32) (fp : Nat → Int32) (hrg_fc : rng fc 80 (-1) (8)) (hw : 0 ≤ cw.toInt ∧ cw.toInt ≤ 10) (hh : 0 ≤ ch.toInt ∧ ch.toInt ≤ 8) : mI l yX0_firstBody wsX0_firstBody 4 160 D (tyW cI cZ cC cS) sq [(ak, .inr (0, [.ref ct, .ref bo, .int tc])), (ct, .inr (1, [.int cw, .int ch, .int cp, .ref aCells, .ref aPrices, .ref aFree, .ref aPlaces, .ref aHomes, .ref aManners, .ref aGone, .ref aPaid, .ref aBlinks])), (aCells, .inl (cI, 80, .inl fc)), (aPrices, .inl (cI, 6, .inl fp))] sz [.ref ak, .int k, .int wa] (fun r w => ((fbX cw.toInt ch.toInt fc fp k.toInt wa.toInt r) ∧ w = [(ak, .inr (0, [.ref ct, .ref bo, .int tc])), (ct, .inr (1, [.int cw, .int ch, .int cp, .ref aCells, .ref aPrices, .ref aFree, .ref aPlaces, .ref aHomes, .ref aManners, .ref aGone, .ref aPaid, .ref aBlinks])), (aCells, .inl (cI, 80, .inl fc)), (aPrices, .inl (cI, 6, .inl fp))])) := by
  refine b_metI (cc := cX0_firstBody) (maxL := 3) (ret := (some .int)) (by decide) rfl (Nat.le_of_ble_eq_true rfl) ?_
  intro p e s m below meth c ls A H X hsz hP hK hT hD hA hS hl
  have S : CallFix p m c cX0_firstBody 3 s ([.ref ak, .int k, .int wa] : List Value).toArray wsX0_firstBody RX0 := X.1
  have hl : lv_has ls 3 [(0, .ref ak), (1, .int k), (2, .int wa)] := hl
  refine lv_iload_n S.1 S.2.1 dX0_firstBody_0 rfl (lv_at hl 2 rfl) ?_
  refine lv_if_ne (tgt := 16) S.1 S.2.1 dX0_firstBody_1 (by decide) (fun c_1 => ?_) (fun c_1 => ?_)
  · rw [eq2 (a := wa) (b := 0) (A := wa.toInt) (B := 0) rfl rfl] at c_1
    refine va_gets (C := RX0) S.1 S.2.1 hT.2.2.2.2.1.1 hS S.2.2.2.1 (S.2.2.2.2 (.fieldLink RX0 56 RX0 "MARK_BODY" "[I") (by decide +kernel)) (fun _ h => h) dX0_firstBody_16 ?_
    refine lv_aload_n S.1 S.2.1 dX0_firstBody_19 rfl (lv_at hl 0 rfl) ?_
    refine lv_iload_n S.1 S.2.1 dX0_firstBody_20 rfl (lv_at hl 1 rfl) ?_
    refine b_ai (wr := []) (b_runV (q0 := 0) (ci := 0) (As := [.int k]) (s_X0_kindOf l D cI cZ cC cS sq H.size ak ct aCells aPrices k bo tc cw ch cp aFree aPlaces aHomes aManners aGone aPaid aBlinks fc fp (by first | with_reducible assumption | assumption | omega | decide | (rw [show Int32.toInt 0 = 0 from rfl]; omega)) (by first | with_reducible assumption | omega | assumption | decide | (rw [show Int32.toInt 0 = 0 from rfl]; omega)) (by first | with_reducible assumption | omega | assumption | decide | (rw [show Int32.toInt 0 = 0 from rfl]; omega))) S gX0_firstBody_X0_kindOf rfl hdV_X0_kindOf ⟨Nat.le_of_ble_eq_true rfl, Nat.le_of_ble_eq_true rfl⟩ ⟨Nat.le_of_ble_eq_true rfl, Nat.le_of_ble_eq_true rfl⟩ hK hT hS hA hP hD rfl rfl [0, 1, 2, 3] rfl (by decide) rfl hl.1 rfl (Nat.le_of_ble_eq_true rfl) dX0_firstBody_21) hP hD hS hA [0, 1, 2, 3] [] rfl rfl (by decide) (by decide) (fun r_2 w_3 H locs hw_4 hP hD hS => ?_)
    obtain ⟨hf_5, hf_6, rfl⟩ := hw_4
    have hP : va_P D vwCl [(ak, .inr (0, [.ref ct, .ref bo, .int tc])), (ct, .inr (1, [.int cw, .int ch, .int cp, .ref aCells, .ref aPrices, .ref aFree, .ref aPlaces, .ref aHomes, .ref aManners, .ref aGone, .ref aPaid, .ref aBlinks])), (aCells, .inl (cI, 80, .inl fc)), (aPrices, .inl (cI, 6, .inl fp))] H := hP
    have hD : va_D A [(ak, .inr (0, [.ref ct, .ref bo, .int tc])), (ct, .inr (1, [.int cw, .int ch, .int cp, .ref aCells, .ref aPrices, .ref aFree, .ref aPlaces, .ref aHomes, .ref aManners, .ref aGone, .ref aPaid, .ref aBlinks])), (aCells, .inl (cI, 80, .inl fc)), (aPrices, .inl (cI, 6, .inl fp))] := hD
    refine va_ti (v := .int (markL.getD r_2.toNatClampNeg 0)) S.1 S.2.1 hT.2.2.2.2.1.2 hS (in_of (n := 6) (by omega) (by omega)) rfl dX0_firstBody_24 ?_
    refine lv_topi (fun x_7 ex_7 => ?_)
    have tx_7 := listR (lo := 0) (hi := 23) (l := markL) (by decide) (by decide) ex_7
    have fv := mark_v (kd := r_2) (by omega) ex_7
    exact b_iret S.1 S.2.1 X.2.1 X.2.2.1 hP hD hS ⟨(by first | exact ⟨_, by assumption, Or.inl ⟨by omega, by assumption⟩⟩ | exact ⟨_, by assumption, Or.inr ⟨by omega, by assumption⟩⟩), rfl⟩ dX0_firstBody_25
  · rw [eq2 (a := wa) (b := 0) (A := wa.toInt) (B := 0) rfl rfl] at c_1
    refine va_gets (C := RX0) S.1 S.2.1 hT.2.2.2.1.1 hS S.2.2.2.1 (S.2.2.2.2 (.fieldLink RX0 53 RX0 "SIZE_BODY" "[I") (by decide +kernel)) (fun _ h => h) dX0_firstBody_4 ?_
    refine lv_aload_n S.1 S.2.1 dX0_firstBody_7 rfl (lv_at hl 0 rfl) ?_
    refine lv_iload_n S.1 S.2.1 dX0_firstBody_8 rfl (lv_at hl 1 rfl) ?_
    refine b_ai (wr := []) (b_runV (q0 := 0) (ci := 0) (As := [.int k]) (s_X0_kindOf l D cI cZ cC cS sq H.size ak ct aCells aPrices k bo tc cw ch cp aFree aPlaces aHomes aManners aGone aPaid aBlinks fc fp (by first | with_reducible assumption | assumption | omega | decide | (rw [show Int32.toInt 0 = 0 from rfl]; omega)) (by first | with_reducible assumption | omega | assumption | decide | (rw [show Int32.toInt 0 = 0 from rfl]; omega)) (by first | with_reducible assumption | omega | assumption | decide | (rw [show Int32.toInt 0 = 0 from rfl]; omega))) S gX0_firstBody_X0_kindOf rfl hdV_X0_kindOf ⟨Nat.le_of_ble_eq_true rfl, Nat.le_of_ble_eq_true rfl⟩ ⟨Nat.le_of_ble_eq_true rfl, Nat.le_of_ble_eq_true rfl⟩ hK hT hS hA hP hD rfl rfl [0, 1, 2, 3] rfl (by decide) rfl hl.1 rfl (Nat.le_of_ble_eq_true rfl) dX0_firstBody_9) hP hD hS hA [0, 1, 2, 3] [] rfl rfl (by decide) (by decide) (fun r_8 w_9 H locs hw_10 hP hD hS => ?_)
    obtain ⟨hf_11, hf_12, rfl⟩ := hw_10
    have hP : va_P D vwCl [(ak, .inr (0, [.ref ct, .ref bo, .int tc])), (ct, .inr (1, [.int cw, .int ch, .int cp, .ref aCells, .ref aPrices, .ref aFree, .ref aPlaces, .ref aHomes, .ref aManners, .ref aGone, .ref aPaid, .ref aBlinks])), (aCells, .inl (cI, 80, .inl fc)), (aPrices, .inl (cI, 6, .inl fp))] H := hP
    have hD : va_D A [(ak, .inr (0, [.ref ct, .ref bo, .int tc])), (ct, .inr (1, [.int cw, .int ch, .int cp, .ref aCells, .ref aPrices, .ref aFree, .ref aPlaces, .ref aHomes, .ref aManners, .ref aGone, .ref aPaid, .ref aBlinks])), (aCells, .inl (cI, 80, .inl fc)), (aPrices, .inl (cI, 6, .inl fp))] := hD
    refine va_ti (v := .int (sizeL.getD r_8.toNatClampNeg 0)) S.1 S.2.1 hT.2.2.2.1.2 hS (in_of (n := 6) (by omega) (by omega)) rfl dX0_firstBody_12 ?_
    refine lv_topi (fun x_13 ex_13 => ?_)
    have tx_13 := listR (lo := 0) (hi := 14) (l := sizeL) (by decide) (by decide) ex_13
    have fv := size_v (kd := r_8) (by omega) ex_13
    refine lv_goto (tgt := 25) S.1 S.2.1 dX0_firstBody_13 (by decide) ?_
    exact b_iret S.1 S.2.1 X.2.1 X.2.2.1 hP hD hS ⟨(by first | exact ⟨_, by assumption, Or.inl ⟨by omega, by assumption⟩⟩ | exact ⟨_, by assumption, Or.inr ⟨by omega, by assumption⟩⟩), rfl⟩ dX0_firstBody_25
set_option maxHeartbeats 4000000 in
set_option maxRecDepth 100000 in
theorem s_X2_open (l : Launch) (D : va_G) (cI cZ cC cS : ClassId) (sq : Nat → Nat) (sz : Nat) (mk : Nat) (tr : Nat) (ct : Nat) (aPrices : Nat) (wh : Nat) (nv : Nat) (tm : Nat) (tt : Nat) (ft : Nat → Int32) (cw : Int32) (ch : Int32) (cp : Int32) (aCells : Nat) (aFree : Nat) (aPlaces : Nat) (aHomes : Nat) (aManners : Nat) (aGone : Nat) (aPaid : Nat) (aBlinks : Nat) (fp : Nat → Int32) (vw : Nat) (pr : Nat) (wD_ : Nat) (wL : Nat) (wQ : Nat) (wE : Nat) (wt : Int32) (tl : Int32) (bd : Int32) (st : Int32) : mV l yX2_open wsX2_open 1 40 0 0 D (tyW cI cZ cC cS) sq [(mk, .inr (2, [.ref ct, .ref wh, .ref tr, .ref tm, .ref tt])), (tr, .inl (cI, 6, .inl ft)), (ct, .inr (1, [.int cw, .int ch, .int cp, .ref aCells, .ref aPrices, .ref aFree, .ref aPlaces, .ref aHomes, .ref aManners, .ref aGone, .ref aPaid, .ref aBlinks])), (aPrices, .inl (cI, 6, .inl fp)), (wh, .inr (7, [.ref ct, .ref vw, .ref pr, .ref wD_, .ref wL, .ref wQ, .ref wE, .int wt, .int tl, .int bd, .int st]))] sz [.ref mk, .ref nv] (fun w => (∃ (ft2 : Nat → Int32), w = [(mk, .inr (2, [.ref ct, .ref wh, .ref tr, .ref tm, .ref tt])), (tr, .inl (cI, 6, .inl ft2)), (ct, .inr (1, [.int cw, .int ch, .int cp, .ref aCells, .ref aPrices, .ref aFree, .ref aPlaces, .ref aHomes, .ref aManners, .ref aGone, .ref aPaid, .ref aBlinks])), (aPrices, .inl (cI, 6, .inl fp)), (wh, .inr (7, [.ref ct, .ref nv, .ref tr, .ref wD_, .ref wL, .ref wQ, .ref wE, .int wt, .int tl, .int bd, .int st]))])) := by
  refine b_metV (cc := cX2_open) (maxL := 2) (ret := none) (by decide) rfl (Nat.le_of_ble_eq_true rfl) ?_
  intro p e s m below meth c ls A H X hsz hP hK hT hD hA hS hl
  have S : CallFix p m c cX2_open 2 s ([.ref mk, .ref nv] : List Value).toArray wsX2_open RX2 := X.1
  have hl : lv_has ls 2 [(0, .ref mk), (1, .ref nv)] := hl
  have iX1 := jX2_open_X1
  have iX2 := jX2_open_X2
  refine lv_aload_n S.1 S.2.1 dX2_open_0 rfl (lv_at hl 0 rfl) ?_
  refine b_get (v := .ref ct) S iX2 hK hP 0 rfl rfl 0 (by decide) (by decide +kernel) rfl dX2_open_1 ?_
  refine b_get (v := .ref aPrices) S iX1 hK hP 2 rfl rfl 4 (by decide) (by decide +kernel) rfl dX2_open_4 ?_
  refine lv_iconst (v := (0)) S.1 S.2.1 dX2_open_7 (by decide) ?_
  refine lv_aload_n S.1 S.2.1 dX2_open_8 rfl (lv_at hl 0 rfl) ?_
  refine b_get (v := .ref tr) S iX2 hK hP 0 rfl rfl 2 (by decide) (by decide +kernel) rfl dX2_open_9 ?_
  refine lv_iconst (v := (0)) S.1 S.2.1 dX2_open_12 (by decide) ?_
  refine lv_bipush (v := (6)) S.1 S.2.1 dX2_open_13 (by decide) ?_
  refine va_copyi (ty := .int) S.1 S.2.1 (S.2.2.1.trans hl.1.symm) S.2.2.2.1 (S.2.2.2.2 (.methodLink RX2 34 arraycopyName) (by decide +kernel)) (S.2.2.2.2 (.native arraycopyName) (by decide +kernel)) (S.2.2.2.2 (.static arraycopyName) (by decide +kernel)) (S.2.2.2.2 (.initialized "java/lang/System") (by decide +kernel)) hK.1 hP hD hS 3 1 0 0 rfl rfl rfl rfl rfl (by decide) (by decide) (by decide) (cpy_le (A := 0) (B := 6) rfl rfl (by omega) (by omega) (by omega)) (cpy_le (A := 0) (B := 6) rfl rfl (by omega) (by omega) (by omega)) (fun _ _ => rfl) (Nat.le_of_ble_eq_true rfl) (Nat.le_of_ble_eq_true rfl) dX2_open_15 (fun H locs hP hD hS => ?_)
  obtain ⟨f_1, hf_1⟩ : ∃ g, (va_cpy fp ft (0 : Int32).toNatClampNeg (0 : Int32).toNatClampNeg (6 : Int32).toNatClampNeg) = g := ⟨_, rfl⟩
  have hP : va_P D vwCl [(mk, .inr (2, [.ref ct, .ref wh, .ref tr, .ref tm, .ref tt])), (tr, .inl (cI, 6, .inl (va_cpy fp ft (0 : Int32).toNatClampNeg (0 : Int32).toNatClampNeg (6 : Int32).toNatClampNeg))), (ct, .inr (1, [.int cw, .int ch, .int cp, .ref aCells, .ref aPrices, .ref aFree, .ref aPlaces, .ref aHomes, .ref aManners, .ref aGone, .ref aPaid, .ref aBlinks])), (aPrices, .inl (cI, 6, .inl fp)), (wh, .inr (7, [.ref ct, .ref vw, .ref pr, .ref wD_, .ref wL, .ref wQ, .ref wE, .int wt, .int tl, .int bd, .int st]))] H := hP
  have hD : va_D A [(mk, .inr (2, [.ref ct, .ref wh, .ref tr, .ref tm, .ref tt])), (tr, .inl (cI, 6, .inl (va_cpy fp ft (0 : Int32).toNatClampNeg (0 : Int32).toNatClampNeg (6 : Int32).toNatClampNeg))), (ct, .inr (1, [.int cw, .int ch, .int cp, .ref aCells, .ref aPrices, .ref aFree, .ref aPlaces, .ref aHomes, .ref aManners, .ref aGone, .ref aPaid, .ref aBlinks])), (aPrices, .inl (cI, 6, .inl fp)), (wh, .inr (7, [.ref ct, .ref vw, .ref pr, .ref wD_, .ref wL, .ref wQ, .ref wE, .int wt, .int tl, .int bd, .int st]))] := hD
  rw [hf_1] at hP hD
  refine lv_aload_n S.1 S.2.1 dX2_open_18 rfl (lv_at hl 0 rfl) ?_
  refine b_get (v := .ref wh) S iX2 hK hP 0 rfl rfl 1 (by decide) (by decide +kernel) rfl dX2_open_19 ?_
  refine lv_aload_n S.1 S.2.1 dX2_open_22 rfl (lv_at hl 1 rfl) ?_
  refine lv_aload_n S.1 S.2.1 dX2_open_23 rfl (lv_at hl 0 rfl) ?_
  refine b_get (v := .ref tr) S iX2 hK hP 0 rfl rfl 2 (by decide) (by decide +kernel) rfl dX2_open_24 ?_
  refine b_av (wr := [(mk, .inr (2, [.ref ct, .ref wh, .ref tr, .ref tm, .ref tt])), (tr, .inl (cI, 6, .inl f_1)), (ct, .inr (1, [.int cw, .int ch, .int cp, .ref aCells, .ref aPrices, .ref aFree, .ref aPlaces, .ref aHomes, .ref aManners, .ref aGone, .ref aPaid, .ref aBlinks])), (aPrices, .inl (cI, 6, .inl fp))]) (b_runV (q0 := 4) (ci := 7) (As := [.ref nv, .ref tr]) (s_X7_regard l D cI cZ cC cS sq H.size wh nv tr ct vw pr wD_ wL wQ wE wt tl bd st) S gX2_open_X7_regard rfl hdV_X7_regard ⟨Nat.le_of_ble_eq_true rfl, Nat.le_of_ble_eq_true rfl⟩ ⟨Nat.le_of_ble_eq_true rfl, Nat.le_of_ble_eq_true rfl⟩ hK hT hS hA hP hD rfl rfl [4] rfl (by decide) rfl hl.1 rfl (Nat.le_of_ble_eq_true rfl) dX2_open_27) hP hD hS hA [4] [0, 1, 2, 3] rfl rfl (by decide) (by decide) (fun w_3 H locs hw_4 hP hD hS => ?_)
  obtain rfl := hw_4
  have hP : va_P D vwCl [(mk, .inr (2, [.ref ct, .ref wh, .ref tr, .ref tm, .ref tt])), (tr, .inl (cI, 6, .inl f_1)), (ct, .inr (1, [.int cw, .int ch, .int cp, .ref aCells, .ref aPrices, .ref aFree, .ref aPlaces, .ref aHomes, .ref aManners, .ref aGone, .ref aPaid, .ref aBlinks])), (aPrices, .inl (cI, 6, .inl fp)), (wh, .inr (7, [.ref ct, .ref nv, .ref tr, .ref wD_, .ref wL, .ref wQ, .ref wE, .int wt, .int tl, .int bd, .int st]))] H := hP
  have hD : va_D A [(mk, .inr (2, [.ref ct, .ref wh, .ref tr, .ref tm, .ref tt])), (tr, .inl (cI, 6, .inl f_1)), (ct, .inr (1, [.int cw, .int ch, .int cp, .ref aCells, .ref aPrices, .ref aFree, .ref aPlaces, .ref aHomes, .ref aManners, .ref aGone, .ref aPaid, .ref aBlinks])), (aPrices, .inl (cI, 6, .inl fp)), (wh, .inr (7, [.ref ct, .ref nv, .ref tr, .ref wD_, .ref wL, .ref wQ, .ref wE, .int wt, .int tl, .int bd, .int st]))] := hD
  exact b_vret S.1 S.2.1 X.2.1 X.2.2.1 hP hD hS ⟨f_1, rfl⟩ dX2_open_30
set_option maxHeartbeats 4000000 in
set_option maxRecDepth 100000 in
theorem lp_earnings {p : Program} (l : Launch) {e : Env} {s : State} {m : MethodId} {below : List Frame} {meth : Method} {c : Code} (D : va_G) (cI cZ cC cS : ClassId) (sq : Nat → Nat) (mk : Nat) (tr : Nat) (wh : Nat) (wD_ : Nat) (wL : Nat) (wQ : Nat) (wE : Nat) (ct : Nat) (aPlaces : Nat) (aHomes : Nat) (aManners : Nat) (aFree : Nat) (vw : Nat) (vN : Nat) (vM : Nat) (vF : Nat) (b : Int32) (tm : Nat) (tt : Nat) (ft : Nat → Int32) (wt : Int32) (tl : Int32) (bd : Int32) (st : Int32) (du : Nat → Int32) (lf : Nat → Int32) (qu : Nat → Int32) (qd : Nat → Int32) (cw : Int32) (ch : Int32) (cp : Int32) (aCells : Nat) (aPrices : Nat) (aGone : Nat) (aPaid : Nat) (aBlinks : Nat) (fl : Nat → Int32) (fh : Nat → Int32) (fm : Nat → Int32) (ff : Nat → Int32) (vS : Nat) (vn : Nat → Int32) (vm : Nat → Int32) (vf : Nat → Int32) (hrg_qu : rng qu 480 (0) (479)) (hrg_fl : rng fl 6 (0) (79)) (hrg_fh : rng fh 6 (0) (79)) (hrg_vn : rng vn 640 (-1) (79)) (hrg_vm : rng vm 640 (0) (2)) (hrg_vf : rng vf 640 (0) (6)) (hp : 0 ≤ cp.toInt ∧ cp.toInt ≤ 6) (hb : 0 ≤ b.toInt ∧ b.toInt < 6) (ht : 0 ≤ tl.toInt ∧ tl.toInt < 480) (hs : 0 ≤ st.toInt ∧ st.toInt < 480) (hbd : 0 ≤ bd.toInt ∧ bd.toInt ≤ 5) {A : Nat → Prop} (X : bX p s m meth c cX2_earnings 4 wsX2_earnings yX2_earnings (some .int) [.ref mk, .int b]) (hK : kW D (tyW cI cZ cC cS) sq s) (hT : sT sq A s s.heap) (hA : ∀ q, s.heap.size ≤ q → A q) (K : ∀ (i : Int32) (q : Int32) (wt : Int32) (tl : Int32) (bd : Int32) (st : Int32) (du : Nat → Int32) (lf : Nat → Int32) (qu : Nat → Int32) (qd : Nat → Int32), (rng qu 480 (0) (479)) → (rng fl 6 (0) (79)) → (rng fh 6 (0) (79)) → (rng vn 640 (-1) (79)) → (rng vm 640 (0) (2)) → (rng vf 640 (0) (6)) → (0 ≤ i.toInt ∧ i.toInt ≤ 6) → (0 ≤ tl.toInt ∧ tl.toInt < 480) → (0 ≤ st.toInt ∧ st.toInt < 480) → (0 ≤ bd.toInt ∧ bd.toInt ≤ 5) → ∀ (H : Heap) (locs : List Loc) (ls : Array Slot), va_P D vwCl [(mk, .inr (2, [.ref ct, .ref wh, .ref tr, .ref tm, .ref tt])), (tr, .inl (cI, 6, .inl ft)), (wh, .inr (7, [.ref ct, .ref vw, .ref tr, .ref wD_, .ref wL, .ref wQ, .ref wE, .int wt, .int tl, .int bd, .int st])), (wD_, .inl (cI, 7, .inl du)), (wL, .inl (cI, 480, .inl lf)), (wQ, .inl (cI, 480, .inl qu)), (wE, .inl (cI, 480, .inl qd)), (ct, .inr (1, [.int cw, .int ch, .int cp, .ref aCells, .ref aPrices, .ref aFree, .ref aPlaces, .ref aHomes, .ref aManners, .ref aGone, .ref aPaid, .ref aBlinks])), (aPlaces, .inl (cI, 6, .inl fl)), (aHomes, .inl (cI, 6, .inl fh)), (aManners, .inl (cI, 6, .inl fm)), (aFree, .inl (cI, 6, .inl ff)), (vw, .inr (6, [.ref vN, .ref vS, .ref vM, .ref vF])), (vN, .inl (cI, 640, .inl vn)), (vM, .inl (cI, 640, .inl vm)), (vF, .inl (cI, 640, .inl vf))] H → va_D A [(mk, .inr (2, [.ref ct, .ref wh, .ref tr, .ref tm, .ref tt])), (tr, .inl (cI, 6, .inl ft)), (wh, .inr (7, [.ref ct, .ref vw, .ref tr, .ref wD_, .ref wL, .ref wQ, .ref wE, .int wt, .int tl, .int bd, .int st])), (wD_, .inl (cI, 7, .inl du)), (wL, .inl (cI, 480, .inl lf)), (wQ, .inl (cI, 480, .inl qu)), (wE, .inl (cI, 480, .inl qd)), (ct, .inr (1, [.int cw, .int ch, .int cp, .ref aCells, .ref aPrices, .ref aFree, .ref aPlaces, .ref aHomes, .ref aManners, .ref aGone, .ref aPaid, .ref aBlinks])), (aPlaces, .inl (cI, 6, .inl fl)), (aHomes, .inl (cI, 6, .inl fh)), (aManners, .inl (cI, 6, .inl fm)), (aFree, .inl (cI, 6, .inl ff)), (vw, .inr (6, [.ref vN, .ref vS, .ref vM, .ref vF])), (vN, .inl (cI, 640, .inl vn)), (vM, .inl (cI, 640, .inl vm)), (vF, .inl (cI, 640, .inl vf))] → va_S A s.heap H locs → lv_has ls 4 [(3, .int i), (2, .int q), (0, .ref mk), (1, .int b)] → W p l e (rmW 4 160 0 0) s m ([.ref mk, .int b] : List Value).toArray below meth c H locs 0 0 (MQ below (va_Qi (fun r w => (∃ (wt2 : Int32), ∃ (tl2 : Int32), ∃ (bd2 : Int32), ∃ (st2 : Int32), ∃ (du2 : Nat → Int32), ∃ (lf2 : Nat → Int32), ∃ (qu2 : Nat → Int32), ∃ (qd2 : Nat → Int32), (rng qu2 480 (0) (479)) ∧ (0 ≤ tl2.toInt ∧ tl2.toInt < 480) ∧ (0 ≤ st2.toInt ∧ st2.toInt < 480) ∧ (0 ≤ bd2.toInt ∧ bd2.toInt ≤ 5) ∧ w = [(mk, .inr (2, [.ref ct, .ref wh, .ref tr, .ref tm, .ref tt])), (tr, .inl (cI, 6, .inl ft)), (wh, .inr (7, [.ref ct, .ref vw, .ref tr, .ref wD_, .ref wL, .ref wQ, .ref wE, .int wt2, .int tl2, .int bd2, .int st2])), (wD_, .inl (cI, 7, .inl du2)), (wL, .inl (cI, 480, .inl lf2)), (wQ, .inl (cI, 480, .inl qu2)), (wE, .inl (cI, 480, .inl qd2)), (ct, .inr (1, [.int cw, .int ch, .int cp, .ref aCells, .ref aPrices, .ref aFree, .ref aPlaces, .ref aHomes, .ref aManners, .ref aGone, .ref aPaid, .ref aBlinks])), (aPlaces, .inl (cI, 6, .inl fl)), (aHomes, .inl (cI, 6, .inl fh)), (aManners, .inl (cI, 6, .inl fm)), (aFree, .inl (cI, 6, .inl ff)), (vw, .inr (6, [.ref vN, .ref vS, .ref vM, .ref vF])), (vN, .inl (cI, 640, .inl vn)), (vM, .inl (cI, 640, .inl vm)), (vF, .inl (cI, 640, .inl vf))])) (wD D A) A) ([.ref mk, .int b] : List Value).toArray s 0 0 A) (F0 m 40 ls [])) : ∀ (mN : Nat) (i : Int32) (q : Int32) (wt : Int32) (tl : Int32) (bd : Int32) (st : Int32) (du : Nat → Int32) (lf : Nat → Int32) (qu : Nat → Int32) (qd : Nat → Int32), (rng qu 480 (0) (479)) → (rng fl 6 (0) (79)) → (rng fh 6 (0) (79)) → (rng vn 640 (-1) (79)) → (rng vm 640 (0) (2)) → (rng vf 640 (0) (6)) → (0 ≤ i.toInt ∧ i.toInt ≤ 6) → (0 ≤ tl.toInt ∧ tl.toInt < 480) → (0 ≤ st.toInt ∧ st.toInt < 480) → (0 ≤ bd.toInt ∧ bd.toInt ≤ 5) → ((6 - i.toInt).toNat < mN) → ∀ (H : Heap) (locs : List Loc) (ls : Array Slot), va_P D vwCl [(mk, .inr (2, [.ref ct, .ref wh, .ref tr, .ref tm, .ref tt])), (tr, .inl (cI, 6, .inl ft)), (wh, .inr (7, [.ref ct, .ref vw, .ref tr, .ref wD_, .ref wL, .ref wQ, .ref wE, .int wt, .int tl, .int bd, .int st])), (wD_, .inl (cI, 7, .inl du)), (wL, .inl (cI, 480, .inl lf)), (wQ, .inl (cI, 480, .inl qu)), (wE, .inl (cI, 480, .inl qd)), (ct, .inr (1, [.int cw, .int ch, .int cp, .ref aCells, .ref aPrices, .ref aFree, .ref aPlaces, .ref aHomes, .ref aManners, .ref aGone, .ref aPaid, .ref aBlinks])), (aPlaces, .inl (cI, 6, .inl fl)), (aHomes, .inl (cI, 6, .inl fh)), (aManners, .inl (cI, 6, .inl fm)), (aFree, .inl (cI, 6, .inl ff)), (vw, .inr (6, [.ref vN, .ref vS, .ref vM, .ref vF])), (vN, .inl (cI, 640, .inl vn)), (vM, .inl (cI, 640, .inl vm)), (vF, .inl (cI, 640, .inl vf))] H → va_D A [(mk, .inr (2, [.ref ct, .ref wh, .ref tr, .ref tm, .ref tt])), (tr, .inl (cI, 6, .inl ft)), (wh, .inr (7, [.ref ct, .ref vw, .ref tr, .ref wD_, .ref wL, .ref wQ, .ref wE, .int wt, .int tl, .int bd, .int st])), (wD_, .inl (cI, 7, .inl du)), (wL, .inl (cI, 480, .inl lf)), (wQ, .inl (cI, 480, .inl qu)), (wE, .inl (cI, 480, .inl qd)), (ct, .inr (1, [.int cw, .int ch, .int cp, .ref aCells, .ref aPrices, .ref aFree, .ref aPlaces, .ref aHomes, .ref aManners, .ref aGone, .ref aPaid, .ref aBlinks])), (aPlaces, .inl (cI, 6, .inl fl)), (aHomes, .inl (cI, 6, .inl fh)), (aManners, .inl (cI, 6, .inl fm)), (aFree, .inl (cI, 6, .inl ff)), (vw, .inr (6, [.ref vN, .ref vS, .ref vM, .ref vF])), (vN, .inl (cI, 640, .inl vn)), (vM, .inl (cI, 640, .inl vm)), (vF, .inl (cI, 640, .inl vf))] → va_S A s.heap H locs → lv_has ls 4 [(3, .int i), (2, .int q), (0, .ref mk), (1, .int b)] → W p l e (rmW 4 160 0 0) s m ([.ref mk, .int b] : List Value).toArray below meth c H locs 0 0 (MQ below (va_Qi (fun r w => (∃ (wt2 : Int32), ∃ (tl2 : Int32), ∃ (bd2 : Int32), ∃ (st2 : Int32), ∃ (du2 : Nat → Int32), ∃ (lf2 : Nat → Int32), ∃ (qu2 : Nat → Int32), ∃ (qd2 : Nat → Int32), (rng qu2 480 (0) (479)) ∧ (0 ≤ tl2.toInt ∧ tl2.toInt < 480) ∧ (0 ≤ st2.toInt ∧ st2.toInt < 480) ∧ (0 ≤ bd2.toInt ∧ bd2.toInt ≤ 5) ∧ w = [(mk, .inr (2, [.ref ct, .ref wh, .ref tr, .ref tm, .ref tt])), (tr, .inl (cI, 6, .inl ft)), (wh, .inr (7, [.ref ct, .ref vw, .ref tr, .ref wD_, .ref wL, .ref wQ, .ref wE, .int wt2, .int tl2, .int bd2, .int st2])), (wD_, .inl (cI, 7, .inl du2)), (wL, .inl (cI, 480, .inl lf2)), (wQ, .inl (cI, 480, .inl qu2)), (wE, .inl (cI, 480, .inl qd2)), (ct, .inr (1, [.int cw, .int ch, .int cp, .ref aCells, .ref aPrices, .ref aFree, .ref aPlaces, .ref aHomes, .ref aManners, .ref aGone, .ref aPaid, .ref aBlinks])), (aPlaces, .inl (cI, 6, .inl fl)), (aHomes, .inl (cI, 6, .inl fh)), (aManners, .inl (cI, 6, .inl fm)), (aFree, .inl (cI, 6, .inl ff)), (vw, .inr (6, [.ref vN, .ref vS, .ref vM, .ref vF])), (vN, .inl (cI, 640, .inl vn)), (vM, .inl (cI, 640, .inl vm)), (vF, .inl (cI, 640, .inl vf))])) (wD D A) A) ([.ref mk, .int b] : List Value).toArray s 0 0 A) (F0 m 4 ls []) := by
  have S : CallFix p m c cX2_earnings 4 s ([.ref mk, .int b] : List Value).toArray wsX2_earnings RX2 := X.1
  have iX1 := jX2_earnings_X1
  have iX2 := jX2_earnings_X2
  intro mN
  induction mN with
  | zero => intro i q wt tl bd st du lf qu qd hrg_qu hrg_fl hrg_fh hrg_vn hrg_vm hrg_vf hi ht hs hbd hm; exact absurd hm (Nat.not_lt_zero _)
  | succ mN ih =>
    intro i q wt tl bd st du lf qu qd hrg_qu hrg_fl hrg_fh hrg_vn hrg_vm hrg_vf hi ht hs hbd hm H locs ls hP hD hS hl
    refine lv_iload_n S.1 S.2.1 dX2_earnings_4 rfl (lv_at hl 0 rfl) ?_
    refine lv_aload_n S.1 S.2.1 dX2_earnings_5 rfl (lv_at hl 2 rfl) ?_
    refine b_get (v := .ref ct) S iX2 hK hP 0 rfl rfl 0 (by decide) (by decide +kernel) rfl dX2_earnings_6 ?_
    refine b_get (v := .int cp) S iX1 hK hP 7 rfl rfl 2 (by decide) (by decide +kernel) rfl dX2_earnings_9 ?_
    refine lv_icmp_ge (tgt := 40) S.1 S.2.1 dX2_earnings_12 (by decide) (fun c_101 => ?_) (fun c_101 => ?_)
    · rw [le2 (a := cp) (b := i) (A := cp.toInt) (B := i.toInt) rfl rfl] at c_101
      exact K i q wt tl bd st du lf qu qd (by first | with_reducible assumption | assumption | omega | decide | (rw [show Int32.toInt 0 = 0 from rfl]; omega)) (by first | with_reducible assumption | assumption | omega | decide | (rw [show Int32.toInt 0 = 0 from rfl]; omega)) (by first | with_reducible assumption | assumption | omega | decide | (rw [show Int32.toInt 0 = 0 from rfl]; omega)) (by first | with_reducible assumption | assumption | omega | decide | (rw [show Int32.toInt 0 = 0 from rfl]; omega)) (by first | with_reducible assumption | assumption | omega | decide | (rw [show Int32.toInt 0 = 0 from rfl]; omega)) (by first | with_reducible assumption | assumption | omega | decide | (rw [show Int32.toInt 0 = 0 from rfl]; omega)) (by first | with_reducible assumption | omega | assumption | decide | (rw [show Int32.toInt 0 = 0 from rfl]; omega)) (by first | with_reducible assumption | omega | assumption | decide | (rw [show Int32.toInt 0 = 0 from rfl]; omega)) (by first | with_reducible assumption | omega | assumption | decide | (rw [show Int32.toInt 0 = 0 from rfl]; omega)) (by first | with_reducible assumption | omega | assumption | decide | (rw [show Int32.toInt 0 = 0 from rfl]; omega)) H _ ls hP hD hS (lv_sub hl [0, 1, 2, 3] rfl)
    · rw [le2 (a := cp) (b := i) (A := cp.toInt) (B := i.toInt) rfl rfl] at c_101
      refine lv_iload_n S.1 S.2.1 dX2_earnings_15 rfl (lv_at hl 1 rfl) ?_
      refine lv_aload_n S.1 S.2.1 dX2_earnings_16 rfl (lv_at hl 2 rfl) ?_
      refine b_get (v := .ref wh) S iX2 hK hP 0 rfl rfl 1 (by decide) (by decide +kernel) rfl dX2_earnings_17 ?_
      refine lv_iload_n S.1 S.2.1 dX2_earnings_20 rfl (lv_at hl 0 rfl) ?_
      refine lv_iload_n S.1 S.2.1 dX2_earnings_21 rfl (lv_at hl 3 rfl) ?_
      refine b_ai (wr := [(mk, .inr (2, [.ref ct, .ref wh, .ref tr, .ref tm, .ref tt]))]) (b_runV (q0 := 2) (ci := 7) (As := [.int i, .int b]) (s_X7_timesPaid l D cI cZ cC cS sq H.size wh wD_ wL wQ wE ct aPlaces aHomes aManners aFree tr vw vN vM vF i b wt tl bd st du lf qu qd cw ch cp aCells aPrices aGone aPaid aBlinks fl fh fm ff ft vS vn vm vf (by first | with_reducible assumption | assumption | omega | decide | (rw [show Int32.toInt 0 = 0 from rfl]; omega)) (by first | with_reducible assumption | assumption | omega | decide | (rw [show Int32.toInt 0 = 0 from rfl]; omega)) (by first | with_reducible assumption | assumption | omega | decide | (rw [show Int32.toInt 0 = 0 from rfl]; omega)) (by first | with_reducible assumption | assumption | omega | decide | (rw [show Int32.toInt 0 = 0 from rfl]; omega)) (by first | with_reducible assumption | assumption | omega | decide | (rw [show Int32.toInt 0 = 0 from rfl]; omega)) (by first | with_reducible assumption | assumption | omega | decide | (rw [show Int32.toInt 0 = 0 from rfl]; omega)) (by first | with_reducible assumption | omega | assumption | decide | (rw [show Int32.toInt 0 = 0 from rfl]; omega)) (by first | with_reducible assumption | omega | assumption | decide | (rw [show Int32.toInt 0 = 0 from rfl]; omega)) (by first | with_reducible assumption | omega | assumption | decide | (rw [show Int32.toInt 0 = 0 from rfl]; omega)) (by first | with_reducible assumption | omega | assumption | decide | (rw [show Int32.toInt 0 = 0 from rfl]; omega)) (by first | with_reducible assumption | omega | assumption | decide | (rw [show Int32.toInt 0 = 0 from rfl]; omega))) S gX2_earnings_X7_timesPaid rfl hdV_X7_timesPaid ⟨Nat.le_of_ble_eq_true rfl, Nat.le_of_ble_eq_true rfl⟩ ⟨Nat.le_of_ble_eq_true rfl, Nat.le_of_ble_eq_true rfl⟩ hK hT hS hA hP hD rfl rfl [2, 3, 4, 5, 6, 7, 8, 9, 10, 11, 1, 12, 13, 14, 15] rfl (by decide) rfl hl.1 rfl (Nat.le_of_ble_eq_true rfl) dX2_earnings_22) hP hD hS hA [2, 3, 4, 5, 6, 7, 8, 9, 10, 11, 1, 12, 13, 14, 15] [0] rfl rfl (by decide) (by decide) (fun r_102 w_103 H locs hw_104 hP hD hS => ?_)
      obtain ⟨wt2_105, tl2_106, bd2_107, st2_108, du2_109, lf2_110, qu2_111, qd2_112, hf_113, hf_114, hf_115, hf_116, rfl⟩ := hw_104
      have hP : va_P D vwCl [(mk, .inr (2, [.ref ct, .ref wh, .ref tr, .ref tm, .ref tt])), (wh, .inr (7, [.ref ct, .ref vw, .ref tr, .ref wD_, .ref wL, .ref wQ, .ref wE, .int wt2_105, .int tl2_106, .int bd2_107, .int st2_108])), (wD_, .inl (cI, 7, .inl du2_109)), (wL, .inl (cI, 480, .inl lf2_110)), (wQ, .inl (cI, 480, .inl qu2_111)), (wE, .inl (cI, 480, .inl qd2_112)), (ct, .inr (1, [.int cw, .int ch, .int cp, .ref aCells, .ref aPrices, .ref aFree, .ref aPlaces, .ref aHomes, .ref aManners, .ref aGone, .ref aPaid, .ref aBlinks])), (aPlaces, .inl (cI, 6, .inl fl)), (aHomes, .inl (cI, 6, .inl fh)), (aManners, .inl (cI, 6, .inl fm)), (aFree, .inl (cI, 6, .inl ff)), (tr, .inl (cI, 6, .inl ft)), (vw, .inr (6, [.ref vN, .ref vS, .ref vM, .ref vF])), (vN, .inl (cI, 640, .inl vn)), (vM, .inl (cI, 640, .inl vm)), (vF, .inl (cI, 640, .inl vf))] H := hP
      have hD : va_D A [(mk, .inr (2, [.ref ct, .ref wh, .ref tr, .ref tm, .ref tt])), (wh, .inr (7, [.ref ct, .ref vw, .ref tr, .ref wD_, .ref wL, .ref wQ, .ref wE, .int wt2_105, .int tl2_106, .int bd2_107, .int st2_108])), (wD_, .inl (cI, 7, .inl du2_109)), (wL, .inl (cI, 480, .inl lf2_110)), (wQ, .inl (cI, 480, .inl qu2_111)), (wE, .inl (cI, 480, .inl qd2_112)), (ct, .inr (1, [.int cw, .int ch, .int cp, .ref aCells, .ref aPrices, .ref aFree, .ref aPlaces, .ref aHomes, .ref aManners, .ref aGone, .ref aPaid, .ref aBlinks])), (aPlaces, .inl (cI, 6, .inl fl)), (aHomes, .inl (cI, 6, .inl fh)), (aManners, .inl (cI, 6, .inl fm)), (aFree, .inl (cI, 6, .inl ff)), (tr, .inl (cI, 6, .inl ft)), (vw, .inr (6, [.ref vN, .ref vS, .ref vM, .ref vF])), (vN, .inl (cI, 640, .inl vn)), (vM, .inl (cI, 640, .inl vm)), (vF, .inl (cI, 640, .inl vf))] := hD
      refine lv_aload_n S.1 S.2.1 dX2_earnings_25 rfl (lv_at hl 2 rfl) ?_
      refine b_get (v := .ref tr) S iX2 hK hP 0 rfl rfl 2 (by decide) (by decide +kernel) rfl dX2_earnings_26 ?_
      refine lv_iload_n S.1 S.2.1 dX2_earnings_29 rfl (lv_at hl 3 rfl) ?_
      have hin_117 : vp_in b 6 := (in_of (n := 6) (by omega) (by omega))
      refine va_iald S.1 S.2.1 hK.1 hP 11 0 rfl rfl hin_117 dX2_earnings_30 ?_
      refine lv_topi (fun x_118 ex_118 => ?_)
      refine lv_imul S.1 S.2.1 dX2_earnings_31 ?_
      refine lv_topi (fun x_119 ex_119 => ?_)
      refine lv_iadd S.1 S.2.1 dX2_earnings_32 ?_
      refine lv_topi (fun x_120 ex_120 => ?_)
      refine lv_istore_n (lv' := [(2, .int x_120), (3, .int i), (0, .ref mk), (1, .int b)]) S.1 S.2.1 dX2_earnings_33 rfl hl (by decide) rfl (fun ls hl => ?_)
      obtain ⟨x_121, ex_121⟩ : ∃ y : Int32, y = i + Int32.ofInt (1) := ⟨_, rfl⟩
      refine lv_iinc (v := x_121) (lv' := [(3, .int x_121), (2, .int x_120), (0, .ref mk), (1, .int b)]) S.1 S.2.1 dX2_earnings_34 hl (k := 1) rfl ex_121.symm (by decide) rfl (fun ls hl => ?_)
      have tx_121 : x_121.toInt = i.toInt + (1) := addI (A := i.toInt) (B := 1) ex_121 rfl rfl (by omega) (by omega)
      refine lv_goto (tgt := 4) S.1 S.2.1 dX2_earnings_37 (by decide) ?_
      have hP := hP.sub (ws' := [(mk, .inr (2, [.ref ct, .ref wh, .ref tr, .ref tm, .ref tt])), (tr, .inl (cI, 6, .inl ft)), (wh, .inr (7, [.ref ct, .ref vw, .ref tr, .ref wD_, .ref wL, .ref wQ, .ref wE, .int wt2_105, .int tl2_106, .int bd2_107, .int st2_108])), (wD_, .inl (cI, 7, .inl du2_109)), (wL, .inl (cI, 480, .inl lf2_110)), (wQ, .inl (cI, 480, .inl qu2_111)), (wE, .inl (cI, 480, .inl qd2_112)), (ct, .inr (1, [.int cw, .int ch, .int cp, .ref aCells, .ref aPrices, .ref aFree, .ref aPlaces, .ref aHomes, .ref aManners, .ref aGone, .ref aPaid, .ref aBlinks])), (aPlaces, .inl (cI, 6, .inl fl)), (aHomes, .inl (cI, 6, .inl fh)), (aManners, .inl (cI, 6, .inl fm)), (aFree, .inl (cI, 6, .inl ff)), (vw, .inr (6, [.ref vN, .ref vS, .ref vM, .ref vF])), (vN, .inl (cI, 640, .inl vn)), (vM, .inl (cI, 640, .inl vm)), (vF, .inl (cI, 640, .inl vf))]) [0, 11, 1, 2, 3, 4, 5, 6, 7, 8, 9, 10, 12, 13, 14, 15] rfl
      have hD := hD.sub (ws' := [(mk, .inr (2, [.ref ct, .ref wh, .ref tr, .ref tm, .ref tt])), (tr, .inl (cI, 6, .inl ft)), (wh, .inr (7, [.ref ct, .ref vw, .ref tr, .ref wD_, .ref wL, .ref wQ, .ref wE, .int wt2_105, .int tl2_106, .int bd2_107, .int st2_108])), (wD_, .inl (cI, 7, .inl du2_109)), (wL, .inl (cI, 480, .inl lf2_110)), (wQ, .inl (cI, 480, .inl qu2_111)), (wE, .inl (cI, 480, .inl qd2_112)), (ct, .inr (1, [.int cw, .int ch, .int cp, .ref aCells, .ref aPrices, .ref aFree, .ref aPlaces, .ref aHomes, .ref aManners, .ref aGone, .ref aPaid, .ref aBlinks])), (aPlaces, .inl (cI, 6, .inl fl)), (aHomes, .inl (cI, 6, .inl fh)), (aManners, .inl (cI, 6, .inl fm)), (aFree, .inl (cI, 6, .inl ff)), (vw, .inr (6, [.ref vN, .ref vS, .ref vM, .ref vF])), (vN, .inl (cI, 640, .inl vn)), (vM, .inl (cI, 640, .inl vm)), (vF, .inl (cI, 640, .inl vf))]) [0, 11, 1, 2, 3, 4, 5, 6, 7, 8, 9, 10, 12, 13, 14, 15] (by decide) rfl
      exact ih x_121 x_120 wt2_105 tl2_106 bd2_107 st2_108 du2_109 lf2_110 qu2_111 qd2_112 (by first | with_reducible assumption | assumption | omega | decide | (rw [show Int32.toInt 0 = 0 from rfl]; omega)) (by first | with_reducible assumption | assumption | omega | decide | (rw [show Int32.toInt 0 = 0 from rfl]; omega)) (by first | with_reducible assumption | assumption | omega | decide | (rw [show Int32.toInt 0 = 0 from rfl]; omega)) (by first | with_reducible assumption | assumption | omega | decide | (rw [show Int32.toInt 0 = 0 from rfl]; omega)) (by first | with_reducible assumption | assumption | omega | decide | (rw [show Int32.toInt 0 = 0 from rfl]; omega)) (by first | with_reducible assumption | assumption | omega | decide | (rw [show Int32.toInt 0 = 0 from rfl]; omega)) (by first | with_reducible assumption | omega | assumption | decide | (rw [show Int32.toInt 0 = 0 from rfl]; omega)) (by first | with_reducible assumption | omega | assumption | decide | (rw [show Int32.toInt 0 = 0 from rfl]; omega)) (by first | with_reducible assumption | omega | assumption | decide | (rw [show Int32.toInt 0 = 0 from rfl]; omega)) (by first | with_reducible assumption | omega | assumption | decide | (rw [show Int32.toInt 0 = 0 from rfl]; omega)) (by omega) H _ ls hP hD hS (lv_sub hl [0, 1, 2, 3] rfl)
set_option maxHeartbeats 4000000 in
set_option maxRecDepth 100000 in
theorem s_X2_earnings (l : Launch) (D : va_G) (cI cZ cC cS : ClassId) (sq : Nat → Nat) (sz : Nat) (mk : Nat) (tr : Nat) (wh : Nat) (wD_ : Nat) (wL : Nat) (wQ : Nat) (wE : Nat) (ct : Nat) (aPlaces : Nat) (aHomes : Nat) (aManners : Nat) (aFree : Nat) (vw : Nat) (vN : Nat) (vM : Nat) (vF : Nat) (b : Int32) (tm : Nat) (tt : Nat) (ft : Nat → Int32) (wt : Int32) (tl : Int32) (bd : Int32) (st : Int32) (du : Nat → Int32) (lf : Nat → Int32) (qu : Nat → Int32) (qd : Nat → Int32) (cw : Int32) (ch : Int32) (cp : Int32) (aCells : Nat) (aPrices : Nat) (aGone : Nat) (aPaid : Nat) (aBlinks : Nat) (fl : Nat → Int32) (fh : Nat → Int32) (fm : Nat → Int32) (ff : Nat → Int32) (vS : Nat) (vn : Nat → Int32) (vm : Nat → Int32) (vf : Nat → Int32) (hrg_qu : rng qu 480 (0) (479)) (hrg_fl : rng fl 6 (0) (79)) (hrg_fh : rng fh 6 (0) (79)) (hrg_vn : rng vn 640 (-1) (79)) (hrg_vm : rng vm 640 (0) (2)) (hrg_vf : rng vf 640 (0) (6)) (hp : 0 ≤ cp.toInt ∧ cp.toInt ≤ 6) (hb : 0 ≤ b.toInt ∧ b.toInt < 6) (ht : 0 ≤ tl.toInt ∧ tl.toInt < 480) (hs : 0 ≤ st.toInt ∧ st.toInt < 480) (hbd : 0 ≤ bd.toInt ∧ bd.toInt ≤ 5) : mI l yX2_earnings wsX2_earnings 4 160 D (tyW cI cZ cC cS) sq [(mk, .inr (2, [.ref ct, .ref wh, .ref tr, .ref tm, .ref tt])), (tr, .inl (cI, 6, .inl ft)), (wh, .inr (7, [.ref ct, .ref vw, .ref tr, .ref wD_, .ref wL, .ref wQ, .ref wE, .int wt, .int tl, .int bd, .int st])), (wD_, .inl (cI, 7, .inl du)), (wL, .inl (cI, 480, .inl lf)), (wQ, .inl (cI, 480, .inl qu)), (wE, .inl (cI, 480, .inl qd)), (ct, .inr (1, [.int cw, .int ch, .int cp, .ref aCells, .ref aPrices, .ref aFree, .ref aPlaces, .ref aHomes, .ref aManners, .ref aGone, .ref aPaid, .ref aBlinks])), (aPlaces, .inl (cI, 6, .inl fl)), (aHomes, .inl (cI, 6, .inl fh)), (aManners, .inl (cI, 6, .inl fm)), (aFree, .inl (cI, 6, .inl ff)), (vw, .inr (6, [.ref vN, .ref vS, .ref vM, .ref vF])), (vN, .inl (cI, 640, .inl vn)), (vM, .inl (cI, 640, .inl vm)), (vF, .inl (cI, 640, .inl vf))] sz [.ref mk, .int b] (fun r w => (∃ (wt2 : Int32), ∃ (tl2 : Int32), ∃ (bd2 : Int32), ∃ (st2 : Int32), ∃ (du2 : Nat → Int32), ∃ (lf2 : Nat → Int32), ∃ (qu2 : Nat → Int32), ∃ (qd2 : Nat → Int32), (rng qu2 480 (0) (479)) ∧ (0 ≤ tl2.toInt ∧ tl2.toInt < 480) ∧ (0 ≤ st2.toInt ∧ st2.toInt < 480) ∧ (0 ≤ bd2.toInt ∧ bd2.toInt ≤ 5) ∧ w = [(mk, .inr (2, [.ref ct, .ref wh, .ref tr, .ref tm, .ref tt])), (tr, .inl (cI, 6, .inl ft)), (wh, .inr (7, [.ref ct, .ref vw, .ref tr, .ref wD_, .ref wL, .ref wQ, .ref wE, .int wt2, .int tl2, .int bd2, .int st2])), (wD_, .inl (cI, 7, .inl du2)), (wL, .inl (cI, 480, .inl lf2)), (wQ, .inl (cI, 480, .inl qu2)), (wE, .inl (cI, 480, .inl qd2)), (ct, .inr (1, [.int cw, .int ch, .int cp, .ref aCells, .ref aPrices, .ref aFree, .ref aPlaces, .ref aHomes, .ref aManners, .ref aGone, .ref aPaid, .ref aBlinks])), (aPlaces, .inl (cI, 6, .inl fl)), (aHomes, .inl (cI, 6, .inl fh)), (aManners, .inl (cI, 6, .inl fm)), (aFree, .inl (cI, 6, .inl ff)), (vw, .inr (6, [.ref vN, .ref vS, .ref vM, .ref vF])), (vN, .inl (cI, 640, .inl vn)), (vM, .inl (cI, 640, .inl vm)), (vF, .inl (cI, 640, .inl vf))])) := by
  refine b_metI (cc := cX2_earnings) (maxL := 4) (ret := (some .int)) (by decide) rfl (Nat.le_of_ble_eq_true rfl) ?_
  intro p e s m below meth c ls A H X hsz hP hK hT hD hA hS hl
  have S : CallFix p m c cX2_earnings 4 s ([.ref mk, .int b] : List Value).toArray wsX2_earnings RX2 := X.1
  have hl : lv_has ls 4 [(0, .ref mk), (1, .int b)] := hl
  refine lv_iconst (v := (0)) S.1 S.2.1 dX2_earnings_0 (by decide) ?_
  refine lv_istore_n (lv' := [(2, .int 0), (0, .ref mk), (1, .int b)]) S.1 S.2.1 dX2_earnings_1 rfl hl (by decide) rfl (fun ls hl => ?_)
  refine lv_iconst (v := (0)) S.1 S.2.1 dX2_earnings_2 (by decide) ?_
  refine lv_istore_n (lv' := [(3, .int 0), (2, .int 0), (0, .ref mk), (1, .int b)]) S.1 S.2.1 dX2_earnings_3 rfl hl (by decide) rfl (fun ls hl => ?_)
  refine lp_earnings l D cI cZ cC cS sq mk tr wh wD_ wL wQ wE ct aPlaces aHomes aManners aFree vw vN vM vF b tm tt ft wt tl bd st du lf qu qd cw ch cp aCells aPrices aGone aPaid aBlinks fl fh fm ff vS vn vm vf hrg_qu hrg_fl hrg_fh hrg_vn hrg_vm hrg_vf hp hb ht hs hbd X hK hT hA (fun i_1 q_2 wt_3 tl_4 bd_5 st_6 du_7 lf_8 qu_9 qd_10 hi_11 hi_12 hi_13 hi_14 hi_15 hi_16 hi_17 hi_18 hi_19 hi_20 H locs ls hP hD hS hl => ?_) _ (0) (0) wt tl bd st du lf qu qd (by first | with_reducible assumption | assumption | omega | decide | (rw [show Int32.toInt 0 = 0 from rfl]; omega)) (by first | with_reducible assumption | assumption | omega | decide | (rw [show Int32.toInt 0 = 0 from rfl]; omega)) (by first | with_reducible assumption | assumption | omega | decide | (rw [show Int32.toInt 0 = 0 from rfl]; omega)) (by first | with_reducible assumption | assumption | omega | decide | (rw [show Int32.toInt 0 = 0 from rfl]; omega)) (by first | with_reducible assumption | assumption | omega | decide | (rw [show Int32.toInt 0 = 0 from rfl]; omega)) (by first | with_reducible assumption | assumption | omega | decide | (rw [show Int32.toInt 0 = 0 from rfl]; omega)) (by first | with_reducible assumption | omega | assumption | decide | (rw [show Int32.toInt 0 = 0 from rfl]; omega)) (by first | with_reducible assumption | omega | assumption | decide | (rw [show Int32.toInt 0 = 0 from rfl]; omega)) (by first | with_reducible assumption | omega | assumption | decide | (rw [show Int32.toInt 0 = 0 from rfl]; omega)) (by first | with_reducible assumption | omega | assumption | decide | (rw [show Int32.toInt 0 = 0 from rfl]; omega)) (Nat.lt_succ_self _) H _ ls hP hD hS (lv_sub hl [0, 1, 2, 3] rfl)
  refine lv_iload_n S.1 S.2.1 dX2_earnings_40 rfl (lv_at hl 1 rfl) ?_
  exact b_iret S.1 S.2.1 X.2.1 X.2.2.1 hP hD hS ⟨wt_3, tl_4, bd_5, st_6, du_7, lf_8, qu_9, qd_10, (by first | with_reducible assumption | assumption | omega | decide | (rw [show Int32.toInt 0 = 0 from rfl]; omega)), (by first | with_reducible assumption | omega | assumption | decide | (rw [show Int32.toInt 0 = 0 from rfl]; omega)), (by first | with_reducible assumption | omega | assumption | decide | (rw [show Int32.toInt 0 = 0 from rfl]; omega)), (by first | with_reducible assumption | omega | assumption | decide | (rw [show Int32.toInt 0 = 0 from rfl]; omega)), rfl⟩ dX2_earnings_41
