set_option maxRecDepth 20000 in
theorem ggX8_canStep_X8_within : GoodIn wsX8_canStep wsX8_within := goodIn_r _ [6] (by first | exact rfl | decide +kernel) (by decide +kernel)
set_option maxRecDepth 20000 in
theorem gX8_canStep_X8_within : GoodIn wsX8_canStep (va_wsS RX8 94 yX8_within wsX8_within) := goodIn_app (goodIn_r _ [3, 4, 5] (by first | exact rfl | decide +kernel) (by decide +kernel)) ggX8_canStep_X8_within
set_option maxRecDepth 20000 in
theorem ggX8_goOneStep_X8_lookAndPay : GoodIn wsX8_goOneStep wsX8_lookAndPay := goodIn_r _ [10, 3, 11, 1, 12, 13, 14, 15, 16, 17, 18, 19, 20, 21, 22, 23, 24, 25, 26, 27, 28, 29, 30, 31, 32, 33, 34, 35, 36, 37, 38, 39, 40, 53, 54, 55, 56, 41, 42, 43, 44, 45, 46, 47, 48, 49, 50, 51, 52] (by first | exact rfl | decide +kernel) (by decide +kernel)
set_option maxRecDepth 20000 in
theorem gX8_goOneStep_X8_lookAndPay : GoodIn wsX8_goOneStep (wsV RX8 311 RX8 yX8_lookAndPay wsX8_lookAndPay) := goodIn_app (goodIn_r _ [6, 7, 8, 9] (by first | exact rfl | decide +kernel) (by decide +kernel)) ggX8_goOneStep_X8_lookAndPay
set_option maxRecDepth 20000 in
theorem ggX8_isOwner_X8_within : GoodIn wsX8_isOwner wsX8_within := goodIn_r _ [4] (by first | exact rfl | decide +kernel) (by decide +kernel)
set_option maxRecDepth 20000 in
theorem gX8_isOwner_X8_within : GoodIn wsX8_isOwner (va_wsS RX8 94 yX8_within wsX8_within) := goodIn_app (goodIn_r _ [1, 2, 3] (by first | exact rfl | decide +kernel) (by decide +kernel)) ggX8_isOwner_X8_within
set_option maxRecDepth 20000 in
theorem ggX8_isPerson_X8_within : GoodIn wsX8_isPerson wsX8_within := goodIn_r _ [6] (by first | exact rfl | decide +kernel) (by decide +kernel)
set_option maxRecDepth 20000 in
theorem gX8_isPerson_X8_within : GoodIn wsX8_isPerson (va_wsS RX8 94 yX8_within wsX8_within) := goodIn_app (goodIn_r _ [3, 4, 5] (by first | exact rfl | decide +kernel) (by decide +kernel)) ggX8_isPerson_X8_within
set_option maxRecDepth 20000 in
theorem ggX8_isSheet_X8_within : GoodIn wsX8_isSheet wsX8_within := goodIn_r _ [4] (by first | exact rfl | decide +kernel) (by decide +kernel)
set_option maxRecDepth 20000 in
theorem gX8_isSheet_X8_within : GoodIn wsX8_isSheet (va_wsS RX8 94 yX8_within wsX8_within) := goodIn_app (goodIn_r _ [1, 2, 3] (by first | exact rfl | decide +kernel) (by decide +kernel)) ggX8_isSheet_X8_within
set_option maxRecDepth 20000 in
theorem ggX8_lookAndPay_X1_pays : GoodIn wsX8_lookAndPay wsX1_pays := goodIn_r _ [11, 12, 13, 37, 38, 39, 40, 41, 42, 43, 44, 45, 46, 47, 48] (by first | exact rfl | decide +kernel) (by decide +kernel)
set_option maxRecDepth 20000 in
theorem gX8_lookAndPay_X1_pays : GoodIn wsX8_lookAndPay (wsV RX8 320 RX1 yX1_pays wsX1_pays) := goodIn_app (goodIn_r _ [7, 8, 9, 10] (by first | exact rfl | decide +kernel) (by decide +kernel)) ggX8_lookAndPay_X1_pays
set_option maxRecDepth 20000 in
theorem ggX8_lookAndPay_X6_times : GoodIn wsX8_lookAndPay wsX6_times := goodIn_r _ [18, 19, 33, 34, 35, 36] (by first | exact rfl | decide +kernel) (by decide +kernel)
set_option maxRecDepth 20000 in
theorem gX8_lookAndPay_X6_times : GoodIn wsX8_lookAndPay (wsV RX8 175 RX6 yX6_times wsX6_times) := goodIn_app (goodIn_r _ [14, 15, 16, 17] (by first | exact rfl | decide +kernel) (by decide +kernel)) ggX8_lookAndPay_X6_times
set_option maxRecDepth 20000 in
theorem ggX8_mostBeautiful_X1_isOpen : GoodIn wsX8_mostBeautiful wsX1_isOpen := goodIn_r _ [6, 7, 8, 9, 10, 5, 11, 12, 13, 34, 35, 36, 37, 38, 39, 40, 41, 42, 43, 44, 45] (by first | exact rfl | decide +kernel) (by decide +kernel)
set_option maxRecDepth 20000 in
theorem gX8_mostBeautiful_X1_isOpen : GoodIn wsX8_mostBeautiful (wsV RX8 165 RX1 yX1_isOpen wsX1_isOpen) := goodIn_app (goodIn_r _ [2, 3, 4, 5] (by first | exact rfl | decide +kernel) (by decide +kernel)) ggX8_mostBeautiful_X1_isOpen
set_option maxRecDepth 20000 in
theorem ggX8_mostBeautiful_X8_seenFrom : GoodIn wsX8_mostBeautiful wsX8_seenFrom := goodIn_r _ [18, 19, 20, 21, 22, 23, 24, 25, 26, 27, 28, 29, 30, 31, 32, 33, 46, 47, 48, 49] (by first | exact rfl | decide +kernel) (by decide +kernel)
set_option maxRecDepth 20000 in
theorem gX8_mostBeautiful_X8_seenFrom : GoodIn wsX8_mostBeautiful (wsV RX8 250 RX8 yX8_seenFrom wsX8_seenFrom) := goodIn_app (goodIn_r _ [14, 15, 16, 17] (by first | exact rfl | decide +kernel) (by decide +kernel)) ggX8_mostBeautiful_X8_seenFrom
set_option maxRecDepth 20000 in
theorem ggX8_noCity_X1_isNone : GoodIn wsX8_noCity wsX1_isNone := goodIn_r _ [6, 7, 21, 22, 23, 24, 25, 26, 27, 28, 29, 30, 31, 32] (by first | exact rfl | decide +kernel) (by decide +kernel)
set_option maxRecDepth 20000 in
theorem gX8_noCity_X1_isNone : GoodIn wsX8_noCity (wsV RX8 275 RX1 yX1_isNone wsX1_isNone) := goodIn_app (goodIn_r _ [2, 3, 4, 5] (by first | exact rfl | decide +kernel) (by decide +kernel)) ggX8_noCity_X1_isNone
set_option maxRecDepth 20000 in
theorem gdX8_canStep_0 : decode cX8_canStep 0 = .ok (.iload_n 2, 1) ∧ decode cX8_canStep 1 = .ok (.aload_n 0, 1) ∧ decode cX8_canStep 2 = .ok (.getfield 25, 3) ∧ decode cX8_canStep 5 = .ok (.getfield 212, 3) ∧ decode cX8_canStep 8 = .ok (.iload_n 1, 1) ∧ decode cX8_canStep 9 = .ok (.iaload, 1) ∧ decode cX8_canStep 10 = .ok (.iconst 2, 1) ∧ decode cX8_canStep 11 = .ok (.if_icmp .ne 8, 3) := by decide +kernel
theorem dX8_canStep_0 : decode cX8_canStep 0 = .ok (.iload_n 2, 1) := gdX8_canStep_0.1
theorem dX8_canStep_1 : decode cX8_canStep 1 = .ok (.aload_n 0, 1) := gdX8_canStep_0.2.1
theorem dX8_canStep_2 : decode cX8_canStep 2 = .ok (.getfield 25, 3) := gdX8_canStep_0.2.2.1
theorem dX8_canStep_5 : decode cX8_canStep 5 = .ok (.getfield 212, 3) := gdX8_canStep_0.2.2.2.1
theorem dX8_canStep_8 : decode cX8_canStep 8 = .ok (.iload_n 1, 1) := gdX8_canStep_0.2.2.2.2.1
theorem dX8_canStep_9 : decode cX8_canStep 9 = .ok (.iaload, 1) := gdX8_canStep_0.2.2.2.2.2.1
theorem dX8_canStep_10 : decode cX8_canStep 10 = .ok (.iconst 2, 1) := gdX8_canStep_0.2.2.2.2.2.2.1
theorem dX8_canStep_11 : decode cX8_canStep 11 = .ok (.if_icmp .ne 8, 3) := gdX8_canStep_0.2.2.2.2.2.2.2
set_option maxRecDepth 20000 in
theorem gdX8_canStep_14 : decode cX8_canStep 14 = .ok (.bipush 16, 2) ∧ decode cX8_canStep 16 = .ok (.goto 5, 3) ∧ decode cX8_canStep 19 = .ok (.bipush 8, 2) ∧ decode cX8_canStep 21 = .ok (.invokestatic 94, 3) ∧ decode cX8_canStep 24 = .ok (.ireturn, 1) := by decide +kernel
theorem dX8_canStep_14 : decode cX8_canStep 14 = .ok (.bipush 16, 2) := gdX8_canStep_14.1
theorem dX8_canStep_16 : decode cX8_canStep 16 = .ok (.goto 5, 3) := gdX8_canStep_14.2.1
theorem dX8_canStep_19 : decode cX8_canStep 19 = .ok (.bipush 8, 2) := gdX8_canStep_14.2.2.1
theorem dX8_canStep_21 : decode cX8_canStep 21 = .ok (.invokestatic 94, 3) := gdX8_canStep_14.2.2.2.1
theorem dX8_canStep_24 : decode cX8_canStep 24 = .ok (.ireturn, 1) := gdX8_canStep_14.2.2.2.2
set_option maxRecDepth 20000 in
theorem gdX8_fault_0 : decode cX8_fault 0 = .ok (.aload_n 0, 1) ∧ decode cX8_fault 1 = .ok (.getfield 82, 3) ∧ decode cX8_fault 4 = .ok (.ireturn, 1) := by decide +kernel
theorem dX8_fault_0 : decode cX8_fault 0 = .ok (.aload_n 0, 1) := gdX8_fault_0.1
theorem dX8_fault_1 : decode cX8_fault 1 = .ok (.getfield 82, 3) := gdX8_fault_0.2.1
theorem dX8_fault_4 : decode cX8_fault 4 = .ok (.ireturn, 1) := gdX8_fault_0.2.2
set_option maxRecDepth 20000 in
theorem gdX8_fine_0 : decode cX8_fine 0 = .ok (.aload_n 0, 1) ∧ decode cX8_fine 1 = .ok (.iconst 0, 1) ∧ decode cX8_fine 2 = .ok (.putfield 86, 3) ∧ decode cX8_fine 5 = .ok (.iload_n 1, 1) ∧ decode cX8_fine 6 = .ok (.ireturn, 1) := by decide +kernel
theorem dX8_fine_0 : decode cX8_fine 0 = .ok (.aload_n 0, 1) := gdX8_fine_0.1
theorem dX8_fine_1 : decode cX8_fine 1 = .ok (.iconst 0, 1) := gdX8_fine_0.2.1
theorem dX8_fine_2 : decode cX8_fine 2 = .ok (.putfield 86, 3) := gdX8_fine_0.2.2.1
theorem dX8_fine_5 : decode cX8_fine 5 = .ok (.iload_n 1, 1) := gdX8_fine_0.2.2.2.1
theorem dX8_fine_6 : decode cX8_fine 6 = .ok (.ireturn, 1) := gdX8_fine_0.2.2.2.2
set_option maxRecDepth 20000 in
theorem gdX8_found_0 : decode cX8_found 0 = .ok (.aload_n 0, 1) ∧ decode cX8_found 1 = .ok (.iload_n 1, 1) ∧ decode cX8_found 2 = .ok (.putfield 86, 3) ∧ decode cX8_found 5 = .ok (.ldc_w 310, 3) ∧ decode cX8_found 8 = .ok (.iload_n 1, 1) ∧ decode cX8_found 9 = .ok (.isub, 1) ∧ decode cX8_found 10 = .ok (.ireturn, 1) := by decide +kernel
theorem dX8_found_0 : decode cX8_found 0 = .ok (.aload_n 0, 1) := gdX8_found_0.1
theorem dX8_found_1 : decode cX8_found 1 = .ok (.iload_n 1, 1) := gdX8_found_0.2.1
theorem dX8_found_2 : decode cX8_found 2 = .ok (.putfield 86, 3) := gdX8_found_0.2.2.1
theorem dX8_found_5 : decode cX8_found 5 = .ok (.ldc_w 310, 3) := gdX8_found_0.2.2.2.1
theorem dX8_found_8 : decode cX8_found 8 = .ok (.iload_n 1, 1) := gdX8_found_0.2.2.2.2.1
theorem dX8_found_9 : decode cX8_found 9 = .ok (.isub, 1) := gdX8_found_0.2.2.2.2.2.1
theorem dX8_found_10 : decode cX8_found 10 = .ok (.ireturn, 1) := gdX8_found_0.2.2.2.2.2.2
set_option maxRecDepth 20000 in
theorem gdX8_goOneStep_0 : decode cX8_goOneStep 0 = .ok (.aload_n 0, 1) ∧ decode cX8_goOneStep 1 = .ok (.getfield 25, 3) ∧ decode cX8_goOneStep 4 = .ok (.getfield 206, 3) ∧ decode cX8_goOneStep 7 = .ok (.iload_n 1, 1) ∧ decode cX8_goOneStep 8 = .ok (.iaload, 1) ∧ decode cX8_goOneStep 9 = .ok (.bipush 8, 2) ∧ decode cX8_goOneStep 11 = .ok (.imul, 1) ∧ decode cX8_goOneStep 12 = .ok (.iload_n 2, 1) := by decide +kernel
theorem dX8_goOneStep_0 : decode cX8_goOneStep 0 = .ok (.aload_n 0, 1) := gdX8_goOneStep_0.1
theorem dX8_goOneStep_1 : decode cX8_goOneStep 1 = .ok (.getfield 25, 3) := gdX8_goOneStep_0.2.1
theorem dX8_goOneStep_4 : decode cX8_goOneStep 4 = .ok (.getfield 206, 3) := gdX8_goOneStep_0.2.2.1
theorem dX8_goOneStep_7 : decode cX8_goOneStep 7 = .ok (.iload_n 1, 1) := gdX8_goOneStep_0.2.2.2.1
theorem dX8_goOneStep_8 : decode cX8_goOneStep 8 = .ok (.iaload, 1) := gdX8_goOneStep_0.2.2.2.2.1
theorem dX8_goOneStep_9 : decode cX8_goOneStep 9 = .ok (.bipush 8, 2) := gdX8_goOneStep_0.2.2.2.2.2.1
theorem dX8_goOneStep_11 : decode cX8_goOneStep 11 = .ok (.imul, 1) := gdX8_goOneStep_0.2.2.2.2.2.2.1
theorem dX8_goOneStep_12 : decode cX8_goOneStep 12 = .ok (.iload_n 2, 1) := gdX8_goOneStep_0.2.2.2.2.2.2.2
set_option maxRecDepth 20000 in
theorem gdX8_goOneStep_13 : decode cX8_goOneStep 13 = .ok (.bipush 8, 2) ∧ decode cX8_goOneStep 15 = .ok (.irem, 1) ∧ decode cX8_goOneStep 16 = .ok (.iadd, 1) ∧ decode cX8_goOneStep 17 = .ok (.istore_n 3, 1) ∧ decode cX8_goOneStep 18 = .ok (.iload_n 2, 1) ∧ decode cX8_goOneStep 19 = .ok (.bipush 8, 2) ∧ decode cX8_goOneStep 21 = .ok (.if_icmp .ge 12, 3) ∧ decode cX8_goOneStep 24 = .ok (.aload_n 0, 1) := by decide +kernel
theorem dX8_goOneStep_13 : decode cX8_goOneStep 13 = .ok (.bipush 8, 2) := gdX8_goOneStep_13.1
theorem dX8_goOneStep_15 : decode cX8_goOneStep 15 = .ok (.irem, 1) := gdX8_goOneStep_13.2.1
theorem dX8_goOneStep_16 : decode cX8_goOneStep 16 = .ok (.iadd, 1) := gdX8_goOneStep_13.2.2.1
theorem dX8_goOneStep_17 : decode cX8_goOneStep 17 = .ok (.istore_n 3, 1) := gdX8_goOneStep_13.2.2.2.1
theorem dX8_goOneStep_18 : decode cX8_goOneStep 18 = .ok (.iload_n 2, 1) := gdX8_goOneStep_13.2.2.2.2.1
theorem dX8_goOneStep_19 : decode cX8_goOneStep 19 = .ok (.bipush 8, 2) := gdX8_goOneStep_13.2.2.2.2.2.1
theorem dX8_goOneStep_21 : decode cX8_goOneStep 21 = .ok (.if_icmp .ge 12, 3) := gdX8_goOneStep_13.2.2.2.2.2.2.1
theorem dX8_goOneStep_24 : decode cX8_goOneStep 24 = .ok (.aload_n 0, 1) := gdX8_goOneStep_13.2.2.2.2.2.2.2
set_option maxRecDepth 20000 in
theorem gdX8_goOneStep_25 : decode cX8_goOneStep 25 = .ok (.iload_n 1, 1) ∧ decode cX8_goOneStep 26 = .ok (.iload_n 3, 1) ∧ decode cX8_goOneStep 27 = .ok (.invokevirtual 311, 3) ∧ decode cX8_goOneStep 30 = .ok (.goto 4, 3) ∧ decode cX8_goOneStep 33 = .ok (.iconst 0, 1) ∧ decode cX8_goOneStep 34 = .ok (.istore 4, 2) ∧ decode cX8_goOneStep 36 = .ok (.aload_n 0, 1) ∧ decode cX8_goOneStep 37 = .ok (.getfield 48, 3) := by decide +kernel
theorem dX8_goOneStep_25 : decode cX8_goOneStep 25 = .ok (.iload_n 1, 1) := gdX8_goOneStep_25.1
theorem dX8_goOneStep_26 : decode cX8_goOneStep 26 = .ok (.iload_n 3, 1) := gdX8_goOneStep_25.2.1
theorem dX8_goOneStep_27 : decode cX8_goOneStep 27 = .ok (.invokevirtual 311, 3) := gdX8_goOneStep_25.2.2.1
theorem dX8_goOneStep_30 : decode cX8_goOneStep 30 = .ok (.goto 4, 3) := gdX8_goOneStep_25.2.2.2.1
theorem dX8_goOneStep_33 : decode cX8_goOneStep 33 = .ok (.iconst 0, 1) := gdX8_goOneStep_25.2.2.2.2.1
theorem dX8_goOneStep_34 : decode cX8_goOneStep 34 = .ok (.istore 4, 2) := gdX8_goOneStep_25.2.2.2.2.2.1
theorem dX8_goOneStep_36 : decode cX8_goOneStep 36 = .ok (.aload_n 0, 1) := gdX8_goOneStep_25.2.2.2.2.2.2.1
theorem dX8_goOneStep_37 : decode cX8_goOneStep 37 = .ok (.getfield 48, 3) := gdX8_goOneStep_25.2.2.2.2.2.2.2
set_option maxRecDepth 20000 in
theorem gdX8_goOneStep_40 : decode cX8_goOneStep 40 = .ok (.getfield 314, 3) ∧ decode cX8_goOneStep 43 = .ok (.iload_n 3, 1) ∧ decode cX8_goOneStep 44 = .ok (.iaload, 1) ∧ decode cX8_goOneStep 45 = .ok (.iconst (-1), 1) ∧ decode cX8_goOneStep 46 = .ok (.if_icmp .eq 21, 3) ∧ decode cX8_goOneStep 49 = .ok (.aload_n 0, 1) ∧ decode cX8_goOneStep 50 = .ok (.getfield 25, 3) ∧ decode cX8_goOneStep 53 = .ok (.getfield 206, 3) := by decide +kernel
theorem dX8_goOneStep_40 : decode cX8_goOneStep 40 = .ok (.getfield 314, 3) := gdX8_goOneStep_40.1
theorem dX8_goOneStep_43 : decode cX8_goOneStep 43 = .ok (.iload_n 3, 1) := gdX8_goOneStep_40.2.1
theorem dX8_goOneStep_44 : decode cX8_goOneStep 44 = .ok (.iaload, 1) := gdX8_goOneStep_40.2.2.1
theorem dX8_goOneStep_45 : decode cX8_goOneStep 45 = .ok (.iconst (-1), 1) := gdX8_goOneStep_40.2.2.2.1
theorem dX8_goOneStep_46 : decode cX8_goOneStep 46 = .ok (.if_icmp .eq 21, 3) := gdX8_goOneStep_40.2.2.2.2.1
theorem dX8_goOneStep_49 : decode cX8_goOneStep 49 = .ok (.aload_n 0, 1) := gdX8_goOneStep_40.2.2.2.2.2.1
theorem dX8_goOneStep_50 : decode cX8_goOneStep 50 = .ok (.getfield 25, 3) := gdX8_goOneStep_40.2.2.2.2.2.2.1
theorem dX8_goOneStep_53 : decode cX8_goOneStep 53 = .ok (.getfield 206, 3) := gdX8_goOneStep_40.2.2.2.2.2.2.2
set_option maxRecDepth 20000 in
theorem gdX8_goOneStep_56 : decode cX8_goOneStep 56 = .ok (.iload_n 1, 1) ∧ decode cX8_goOneStep 57 = .ok (.aload_n 0, 1) ∧ decode cX8_goOneStep 58 = .ok (.getfield 48, 3) ∧ decode cX8_goOneStep 61 = .ok (.getfield 314, 3) ∧ decode cX8_goOneStep 64 = .ok (.iload_n 3, 1) ∧ decode cX8_goOneStep 65 = .ok (.iaload, 1) ∧ decode cX8_goOneStep 66 = .ok (.iastore, 1) ∧ decode cX8_goOneStep 67 = .ok (.aload_n 0, 1) := by decide +kernel
theorem dX8_goOneStep_56 : decode cX8_goOneStep 56 = .ok (.iload_n 1, 1) := gdX8_goOneStep_56.1
theorem dX8_goOneStep_57 : decode cX8_goOneStep 57 = .ok (.aload_n 0, 1) := gdX8_goOneStep_56.2.1
theorem dX8_goOneStep_58 : decode cX8_goOneStep 58 = .ok (.getfield 48, 3) := gdX8_goOneStep_56.2.2.1
theorem dX8_goOneStep_61 : decode cX8_goOneStep 61 = .ok (.getfield 314, 3) := gdX8_goOneStep_56.2.2.2.1
theorem dX8_goOneStep_64 : decode cX8_goOneStep 64 = .ok (.iload_n 3, 1) := gdX8_goOneStep_56.2.2.2.2.1
theorem dX8_goOneStep_65 : decode cX8_goOneStep 65 = .ok (.iaload, 1) := gdX8_goOneStep_56.2.2.2.2.2.1
theorem dX8_goOneStep_66 : decode cX8_goOneStep 66 = .ok (.iastore, 1) := gdX8_goOneStep_56.2.2.2.2.2.2.1
theorem dX8_goOneStep_67 : decode cX8_goOneStep 67 = .ok (.aload_n 0, 1) := gdX8_goOneStep_56.2.2.2.2.2.2.2
set_option maxRecDepth 20000 in
theorem gdX8_goOneStep_68 : decode cX8_goOneStep 68 = .ok (.getfield 25, 3) ∧ decode cX8_goOneStep 71 = .ok (.getfield 218, 3) ∧ decode cX8_goOneStep 74 = .ok (.iload_n 1, 1) ∧ decode cX8_goOneStep 75 = .ok (.dup2, 1) ∧ decode cX8_goOneStep 76 = .ok (.iaload, 1) ∧ decode cX8_goOneStep 77 = .ok (.iconst 1, 1) ∧ decode cX8_goOneStep 78 = .ok (.iadd, 1) ∧ decode cX8_goOneStep 79 = .ok (.iastore, 1) := by decide +kernel
theorem dX8_goOneStep_68 : decode cX8_goOneStep 68 = .ok (.getfield 25, 3) := gdX8_goOneStep_68.1
theorem dX8_goOneStep_71 : decode cX8_goOneStep 71 = .ok (.getfield 218, 3) := gdX8_goOneStep_68.2.1
theorem dX8_goOneStep_74 : decode cX8_goOneStep 74 = .ok (.iload_n 1, 1) := gdX8_goOneStep_68.2.2.1
theorem dX8_goOneStep_75 : decode cX8_goOneStep 75 = .ok (.dup2, 1) := gdX8_goOneStep_68.2.2.2.1
theorem dX8_goOneStep_76 : decode cX8_goOneStep 76 = .ok (.iaload, 1) := gdX8_goOneStep_68.2.2.2.2.1
theorem dX8_goOneStep_77 : decode cX8_goOneStep 77 = .ok (.iconst 1, 1) := gdX8_goOneStep_68.2.2.2.2.2.1
theorem dX8_goOneStep_78 : decode cX8_goOneStep 78 = .ok (.iadd, 1) := gdX8_goOneStep_68.2.2.2.2.2.2.1
theorem dX8_goOneStep_79 : decode cX8_goOneStep 79 = .ok (.iastore, 1) := gdX8_goOneStep_68.2.2.2.2.2.2.2
theorem dX8_goOneStep_80 : decode cX8_goOneStep 80 = .ok (.iload 4, 2) := by decide +kernel
theorem dX8_goOneStep_82 : decode cX8_goOneStep 82 = .ok (.ireturn, 1) := by decide +kernel
set_option maxRecDepth 20000 in
theorem gdX8_isOwner_0 : decode cX8_isOwner 0 = .ok (.iload_n 0, 1) ∧ decode cX8_isOwner 1 = .ok (.bipush 6, 2) ∧ decode cX8_isOwner 3 = .ok (.invokestatic 94, 3) ∧ decode cX8_isOwner 6 = .ok (.ireturn, 1) := by decide +kernel
theorem dX8_isOwner_0 : decode cX8_isOwner 0 = .ok (.iload_n 0, 1) := gdX8_isOwner_0.1
theorem dX8_isOwner_1 : decode cX8_isOwner 1 = .ok (.bipush 6, 2) := gdX8_isOwner_0.2.1
theorem dX8_isOwner_3 : decode cX8_isOwner 3 = .ok (.invokestatic 94, 3) := gdX8_isOwner_0.2.2.1
theorem dX8_isOwner_6 : decode cX8_isOwner 6 = .ok (.ireturn, 1) := gdX8_isOwner_0.2.2.2
set_option maxRecDepth 20000 in
theorem gdX8_isPerson_0 : decode cX8_isPerson 0 = .ok (.iload_n 1, 1) ∧ decode cX8_isPerson 1 = .ok (.aload_n 0, 1) ∧ decode cX8_isPerson 2 = .ok (.getfield 25, 3) ∧ decode cX8_isPerson 5 = .ok (.getfield 162, 3) ∧ decode cX8_isPerson 8 = .ok (.invokestatic 94, 3) ∧ decode cX8_isPerson 11 = .ok (.ireturn, 1) := by decide +kernel
theorem dX8_isPerson_0 : decode cX8_isPerson 0 = .ok (.iload_n 1, 1) := gdX8_isPerson_0.1
theorem dX8_isPerson_1 : decode cX8_isPerson 1 = .ok (.aload_n 0, 1) := gdX8_isPerson_0.2.1
theorem dX8_isPerson_2 : decode cX8_isPerson 2 = .ok (.getfield 25, 3) := gdX8_isPerson_0.2.2.1
theorem dX8_isPerson_5 : decode cX8_isPerson 5 = .ok (.getfield 162, 3) := gdX8_isPerson_0.2.2.2.1
theorem dX8_isPerson_8 : decode cX8_isPerson 8 = .ok (.invokestatic 94, 3) := gdX8_isPerson_0.2.2.2.2.1
theorem dX8_isPerson_11 : decode cX8_isPerson 11 = .ok (.ireturn, 1) := gdX8_isPerson_0.2.2.2.2.2
set_option maxRecDepth 20000 in
theorem gdX8_isSheet_0 : decode cX8_isSheet 0 = .ok (.iload_n 0, 1) ∧ decode cX8_isSheet 1 = .ok (.bipush 8, 2) ∧ decode cX8_isSheet 3 = .ok (.invokestatic 94, 3) ∧ decode cX8_isSheet 6 = .ok (.ireturn, 1) := by decide +kernel
theorem dX8_isSheet_0 : decode cX8_isSheet 0 = .ok (.iload_n 0, 1) := gdX8_isSheet_0.1
theorem dX8_isSheet_1 : decode cX8_isSheet 1 = .ok (.bipush 8, 2) := gdX8_isSheet_0.2.1
theorem dX8_isSheet_3 : decode cX8_isSheet 3 = .ok (.invokestatic 94, 3) := gdX8_isSheet_0.2.2.1
theorem dX8_isSheet_6 : decode cX8_isSheet 6 = .ok (.ireturn, 1) := gdX8_isSheet_0.2.2.2
set_option maxRecDepth 20000 in
theorem gdX8_lookAndPay_0 : decode cX8_lookAndPay 0 = .ok (.aload_n 0, 1) ∧ decode cX8_lookAndPay 1 = .ok (.getfield 48, 3) ∧ decode cX8_lookAndPay 4 = .ok (.getfield 317, 3) ∧ decode cX8_lookAndPay 7 = .ok (.iload_n 2, 1) ∧ decode cX8_lookAndPay 8 = .ok (.iaload, 1) ∧ decode cX8_lookAndPay 9 = .ok (.istore_n 3, 1) ∧ decode cX8_lookAndPay 10 = .ok (.iload_n 3, 1) ∧ decode cX8_lookAndPay 11 = .ok (.bipush 6, 2) := by decide +kernel
theorem dX8_lookAndPay_0 : decode cX8_lookAndPay 0 = .ok (.aload_n 0, 1) := gdX8_lookAndPay_0.1
theorem dX8_lookAndPay_1 : decode cX8_lookAndPay 1 = .ok (.getfield 48, 3) := gdX8_lookAndPay_0.2.1
theorem dX8_lookAndPay_4 : decode cX8_lookAndPay 4 = .ok (.getfield 317, 3) := gdX8_lookAndPay_0.2.2.1
theorem dX8_lookAndPay_7 : decode cX8_lookAndPay 7 = .ok (.iload_n 2, 1) := gdX8_lookAndPay_0.2.2.2.1
theorem dX8_lookAndPay_8 : decode cX8_lookAndPay 8 = .ok (.iaload, 1) := gdX8_lookAndPay_0.2.2.2.2.1
theorem dX8_lookAndPay_9 : decode cX8_lookAndPay 9 = .ok (.istore_n 3, 1) := gdX8_lookAndPay_0.2.2.2.2.2.1
theorem dX8_lookAndPay_10 : decode cX8_lookAndPay 10 = .ok (.iload_n 3, 1) := gdX8_lookAndPay_0.2.2.2.2.2.2.1
theorem dX8_lookAndPay_11 : decode cX8_lookAndPay 11 = .ok (.bipush 6, 2) := gdX8_lookAndPay_0.2.2.2.2.2.2.2
set_option maxRecDepth 20000 in
theorem gdX8_lookAndPay_13 : decode cX8_lookAndPay 13 = .ok (.if_icmp .ne 5, 3) ∧ decode cX8_lookAndPay 16 = .ok (.iconst 0, 1) ∧ decode cX8_lookAndPay 17 = .ok (.ireturn, 1) ∧ decode cX8_lookAndPay 18 = .ok (.aload_n 0, 1) ∧ decode cX8_lookAndPay 19 = .ok (.getfield 25, 3) ∧ decode cX8_lookAndPay 22 = .ok (.iload_n 1, 1) ∧ decode cX8_lookAndPay 23 = .ok (.iload_n 3, 1) ∧ decode cX8_lookAndPay 24 = .ok (.invokevirtual 320, 3) := by decide +kernel
theorem dX8_lookAndPay_13 : decode cX8_lookAndPay 13 = .ok (.if_icmp .ne 5, 3) := gdX8_lookAndPay_13.1
theorem dX8_lookAndPay_16 : decode cX8_lookAndPay 16 = .ok (.iconst 0, 1) := gdX8_lookAndPay_13.2.1
theorem dX8_lookAndPay_17 : decode cX8_lookAndPay 17 = .ok (.ireturn, 1) := gdX8_lookAndPay_13.2.2.1
theorem dX8_lookAndPay_18 : decode cX8_lookAndPay 18 = .ok (.aload_n 0, 1) := gdX8_lookAndPay_13.2.2.2.1
theorem dX8_lookAndPay_19 : decode cX8_lookAndPay 19 = .ok (.getfield 25, 3) := gdX8_lookAndPay_13.2.2.2.2.1
theorem dX8_lookAndPay_22 : decode cX8_lookAndPay 22 = .ok (.iload_n 1, 1) := gdX8_lookAndPay_13.2.2.2.2.2.1
theorem dX8_lookAndPay_23 : decode cX8_lookAndPay 23 = .ok (.iload_n 3, 1) := gdX8_lookAndPay_13.2.2.2.2.2.2.1
theorem dX8_lookAndPay_24 : decode cX8_lookAndPay 24 = .ok (.invokevirtual 320, 3) := gdX8_lookAndPay_13.2.2.2.2.2.2.2
set_option maxRecDepth 20000 in
theorem gdX8_lookAndPay_27 : decode cX8_lookAndPay 27 = .ok (.ifCond .eq 24, 3) ∧ decode cX8_lookAndPay 30 = .ok (.aload_n 0, 1) ∧ decode cX8_lookAndPay 31 = .ok (.getfield 25, 3) ∧ decode cX8_lookAndPay 34 = .ok (.getfield 188, 3) ∧ decode cX8_lookAndPay 37 = .ok (.iload_n 3, 1) ∧ decode cX8_lookAndPay 38 = .ok (.iaload, 1) ∧ decode cX8_lookAndPay 39 = .ok (.aload_n 0, 1) ∧ decode cX8_lookAndPay 40 = .ok (.getfield 48, 3) := by decide +kernel
theorem dX8_lookAndPay_27 : decode cX8_lookAndPay 27 = .ok (.ifCond .eq 24, 3) := gdX8_lookAndPay_27.1
theorem dX8_lookAndPay_30 : decode cX8_lookAndPay 30 = .ok (.aload_n 0, 1) := gdX8_lookAndPay_27.2.1
theorem dX8_lookAndPay_31 : decode cX8_lookAndPay 31 = .ok (.getfield 25, 3) := gdX8_lookAndPay_27.2.2.1
theorem dX8_lookAndPay_34 : decode cX8_lookAndPay 34 = .ok (.getfield 188, 3) := gdX8_lookAndPay_27.2.2.2.1
theorem dX8_lookAndPay_37 : decode cX8_lookAndPay 37 = .ok (.iload_n 3, 1) := gdX8_lookAndPay_27.2.2.2.2.1
theorem dX8_lookAndPay_38 : decode cX8_lookAndPay 38 = .ok (.iaload, 1) := gdX8_lookAndPay_27.2.2.2.2.2.1
theorem dX8_lookAndPay_39 : decode cX8_lookAndPay 39 = .ok (.aload_n 0, 1) := gdX8_lookAndPay_27.2.2.2.2.2.2.1
theorem dX8_lookAndPay_40 : decode cX8_lookAndPay 40 = .ok (.getfield 48, 3) := gdX8_lookAndPay_27.2.2.2.2.2.2.2
set_option maxRecDepth 20000 in
theorem gdX8_lookAndPay_43 : decode cX8_lookAndPay 43 = .ok (.iload_n 2, 1) ∧ decode cX8_lookAndPay 44 = .ok (.invokevirtual 175, 3) ∧ decode cX8_lookAndPay 47 = .ok (.imul, 1) ∧ decode cX8_lookAndPay 48 = .ok (.goto 4, 3) ∧ decode cX8_lookAndPay 51 = .ok (.iconst 0, 1) ∧ decode cX8_lookAndPay 52 = .ok (.istore 4, 2) ∧ decode cX8_lookAndPay 54 = .ok (.aload_n 0, 1) ∧ decode cX8_lookAndPay 55 = .ok (.getfield 25, 3) := by decide +kernel
theorem dX8_lookAndPay_43 : decode cX8_lookAndPay 43 = .ok (.iload_n 2, 1) := gdX8_lookAndPay_43.1
theorem dX8_lookAndPay_44 : decode cX8_lookAndPay 44 = .ok (.invokevirtual 175, 3) := gdX8_lookAndPay_43.2.1
theorem dX8_lookAndPay_47 : decode cX8_lookAndPay 47 = .ok (.imul, 1) := gdX8_lookAndPay_43.2.2.1
theorem dX8_lookAndPay_48 : decode cX8_lookAndPay 48 = .ok (.goto 4, 3) := gdX8_lookAndPay_43.2.2.2.1
theorem dX8_lookAndPay_51 : decode cX8_lookAndPay 51 = .ok (.iconst 0, 1) := gdX8_lookAndPay_43.2.2.2.2.1
theorem dX8_lookAndPay_52 : decode cX8_lookAndPay 52 = .ok (.istore 4, 2) := gdX8_lookAndPay_43.2.2.2.2.2.1
theorem dX8_lookAndPay_54 : decode cX8_lookAndPay 54 = .ok (.aload_n 0, 1) := gdX8_lookAndPay_43.2.2.2.2.2.2.1
theorem dX8_lookAndPay_55 : decode cX8_lookAndPay 55 = .ok (.getfield 25, 3) := gdX8_lookAndPay_43.2.2.2.2.2.2.2
set_option maxRecDepth 20000 in
theorem gdX8_lookAndPay_58 : decode cX8_lookAndPay 58 = .ok (.getfield 200, 3) ∧ decode cX8_lookAndPay 61 = .ok (.iload_n 1, 1) ∧ decode cX8_lookAndPay 62 = .ok (.bipush 6, 2) ∧ decode cX8_lookAndPay 64 = .ok (.imul, 1) ∧ decode cX8_lookAndPay 65 = .ok (.iload_n 3, 1) ∧ decode cX8_lookAndPay 66 = .ok (.iadd, 1) ∧ decode cX8_lookAndPay 67 = .ok (.dup2, 1) ∧ decode cX8_lookAndPay 68 = .ok (.iaload, 1) := by decide +kernel
theorem dX8_lookAndPay_58 : decode cX8_lookAndPay 58 = .ok (.getfield 200, 3) := gdX8_lookAndPay_58.1
theorem dX8_lookAndPay_61 : decode cX8_lookAndPay 61 = .ok (.iload_n 1, 1) := gdX8_lookAndPay_58.2.1
theorem dX8_lookAndPay_62 : decode cX8_lookAndPay 62 = .ok (.bipush 6, 2) := gdX8_lookAndPay_58.2.2.1
theorem dX8_lookAndPay_64 : decode cX8_lookAndPay 64 = .ok (.imul, 1) := gdX8_lookAndPay_58.2.2.2.1
theorem dX8_lookAndPay_65 : decode cX8_lookAndPay 65 = .ok (.iload_n 3, 1) := gdX8_lookAndPay_58.2.2.2.2.1
theorem dX8_lookAndPay_66 : decode cX8_lookAndPay 66 = .ok (.iadd, 1) := gdX8_lookAndPay_58.2.2.2.2.2.1
theorem dX8_lookAndPay_67 : decode cX8_lookAndPay 67 = .ok (.dup2, 1) := gdX8_lookAndPay_58.2.2.2.2.2.2.1
theorem dX8_lookAndPay_68 : decode cX8_lookAndPay 68 = .ok (.iaload, 1) := gdX8_lookAndPay_58.2.2.2.2.2.2.2
set_option maxRecDepth 20000 in
theorem gdX8_lookAndPay_69 : decode cX8_lookAndPay 69 = .ok (.iload 4, 2) ∧ decode cX8_lookAndPay 71 = .ok (.iadd, 1) ∧ decode cX8_lookAndPay 72 = .ok (.iastore, 1) ∧ decode cX8_lookAndPay 73 = .ok (.aload_n 0, 1) ∧ decode cX8_lookAndPay 74 = .ok (.getfield 25, 3) ∧ decode cX8_lookAndPay 77 = .ok (.getfield 203, 3) ∧ decode cX8_lookAndPay 80 = .ok (.iload_n 1, 1) ∧ decode cX8_lookAndPay 81 = .ok (.bipush 6, 2) := by decide +kernel
theorem dX8_lookAndPay_69 : decode cX8_lookAndPay 69 = .ok (.iload 4, 2) := gdX8_lookAndPay_69.1
theorem dX8_lookAndPay_71 : decode cX8_lookAndPay 71 = .ok (.iadd, 1) := gdX8_lookAndPay_69.2.1
theorem dX8_lookAndPay_72 : decode cX8_lookAndPay 72 = .ok (.iastore, 1) := gdX8_lookAndPay_69.2.2.1
theorem dX8_lookAndPay_73 : decode cX8_lookAndPay 73 = .ok (.aload_n 0, 1) := gdX8_lookAndPay_69.2.2.2.1
theorem dX8_lookAndPay_74 : decode cX8_lookAndPay 74 = .ok (.getfield 25, 3) := gdX8_lookAndPay_69.2.2.2.2.1
theorem dX8_lookAndPay_77 : decode cX8_lookAndPay 77 = .ok (.getfield 203, 3) := gdX8_lookAndPay_69.2.2.2.2.2.1
theorem dX8_lookAndPay_80 : decode cX8_lookAndPay 80 = .ok (.iload_n 1, 1) := gdX8_lookAndPay_69.2.2.2.2.2.2.1
theorem dX8_lookAndPay_81 : decode cX8_lookAndPay 81 = .ok (.bipush 6, 2) := gdX8_lookAndPay_69.2.2.2.2.2.2.2
set_option maxRecDepth 20000 in
theorem gdX8_lookAndPay_83 : decode cX8_lookAndPay 83 = .ok (.imul, 1) ∧ decode cX8_lookAndPay 84 = .ok (.iload_n 3, 1) ∧ decode cX8_lookAndPay 85 = .ok (.iadd, 1) ∧ decode cX8_lookAndPay 86 = .ok (.dup2, 1) ∧ decode cX8_lookAndPay 87 = .ok (.iaload, 1) ∧ decode cX8_lookAndPay 88 = .ok (.iconst 1, 1) ∧ decode cX8_lookAndPay 89 = .ok (.iadd, 1) ∧ decode cX8_lookAndPay 90 = .ok (.iastore, 1) := by decide +kernel
theorem dX8_lookAndPay_83 : decode cX8_lookAndPay 83 = .ok (.imul, 1) := gdX8_lookAndPay_83.1
theorem dX8_lookAndPay_84 : decode cX8_lookAndPay 84 = .ok (.iload_n 3, 1) := gdX8_lookAndPay_83.2.1
theorem dX8_lookAndPay_85 : decode cX8_lookAndPay 85 = .ok (.iadd, 1) := gdX8_lookAndPay_83.2.2.1
theorem dX8_lookAndPay_86 : decode cX8_lookAndPay 86 = .ok (.dup2, 1) := gdX8_lookAndPay_83.2.2.2.1
theorem dX8_lookAndPay_87 : decode cX8_lookAndPay 87 = .ok (.iaload, 1) := gdX8_lookAndPay_83.2.2.2.2.1
theorem dX8_lookAndPay_88 : decode cX8_lookAndPay 88 = .ok (.iconst 1, 1) := gdX8_lookAndPay_83.2.2.2.2.2.1
theorem dX8_lookAndPay_89 : decode cX8_lookAndPay 89 = .ok (.iadd, 1) := gdX8_lookAndPay_83.2.2.2.2.2.2.1
theorem dX8_lookAndPay_90 : decode cX8_lookAndPay 90 = .ok (.iastore, 1) := gdX8_lookAndPay_83.2.2.2.2.2.2.2
theorem dX8_lookAndPay_91 : decode cX8_lookAndPay 91 = .ok (.iload 4, 2) := by decide +kernel
theorem dX8_lookAndPay_93 : decode cX8_lookAndPay 93 = .ok (.ireturn, 1) := by decide +kernel
set_option maxRecDepth 20000 in
theorem gdX8_mostBeautiful_0 : decode cX8_mostBeautiful 0 = .ok (.iconst (-1), 1) ∧ decode cX8_mostBeautiful 1 = .ok (.istore_n 1, 1) ∧ decode cX8_mostBeautiful 2 = .ok (.iconst (-1), 1) ∧ decode cX8_mostBeautiful 3 = .ok (.istore_n 2, 1) ∧ decode cX8_mostBeautiful 4 = .ok (.iconst 0, 1) ∧ decode cX8_mostBeautiful 5 = .ok (.istore_n 3, 1) ∧ decode cX8_mostBeautiful 6 = .ok (.iload_n 3, 1) ∧ decode cX8_mostBeautiful 7 = .ok (.bipush 80, 2) := by decide +kernel
theorem dX8_mostBeautiful_0 : decode cX8_mostBeautiful 0 = .ok (.iconst (-1), 1) := gdX8_mostBeautiful_0.1
theorem dX8_mostBeautiful_1 : decode cX8_mostBeautiful 1 = .ok (.istore_n 1, 1) := gdX8_mostBeautiful_0.2.1
theorem dX8_mostBeautiful_2 : decode cX8_mostBeautiful 2 = .ok (.iconst (-1), 1) := gdX8_mostBeautiful_0.2.2.1
theorem dX8_mostBeautiful_3 : decode cX8_mostBeautiful 3 = .ok (.istore_n 2, 1) := gdX8_mostBeautiful_0.2.2.2.1
theorem dX8_mostBeautiful_4 : decode cX8_mostBeautiful 4 = .ok (.iconst 0, 1) := gdX8_mostBeautiful_0.2.2.2.2.1
theorem dX8_mostBeautiful_5 : decode cX8_mostBeautiful 5 = .ok (.istore_n 3, 1) := gdX8_mostBeautiful_0.2.2.2.2.2.1
theorem dX8_mostBeautiful_6 : decode cX8_mostBeautiful 6 = .ok (.iload_n 3, 1) := gdX8_mostBeautiful_0.2.2.2.2.2.2.1
theorem dX8_mostBeautiful_7 : decode cX8_mostBeautiful 7 = .ok (.bipush 80, 2) := gdX8_mostBeautiful_0.2.2.2.2.2.2.2
set_option maxRecDepth 20000 in
theorem gdX8_mostBeautiful_9 : decode cX8_mostBeautiful 9 = .ok (.if_icmp .ge 42, 3) ∧ decode cX8_mostBeautiful 12 = .ok (.aload_n 0, 1) ∧ decode cX8_mostBeautiful 13 = .ok (.getfield 25, 3) ∧ decode cX8_mostBeautiful 16 = .ok (.iload_n 3, 1) ∧ decode cX8_mostBeautiful 17 = .ok (.invokevirtual 165, 3) ∧ decode cX8_mostBeautiful 20 = .ok (.ifCond .eq 11, 3) ∧ decode cX8_mostBeautiful 23 = .ok (.aload_n 0, 1) ∧ decode cX8_mostBeautiful 24 = .ok (.iload_n 3, 1) := by decide +kernel
theorem dX8_mostBeautiful_9 : decode cX8_mostBeautiful 9 = .ok (.if_icmp .ge 42, 3) := gdX8_mostBeautiful_9.1
theorem dX8_mostBeautiful_12 : decode cX8_mostBeautiful 12 = .ok (.aload_n 0, 1) := gdX8_mostBeautiful_9.2.1
theorem dX8_mostBeautiful_13 : decode cX8_mostBeautiful 13 = .ok (.getfield 25, 3) := gdX8_mostBeautiful_9.2.2.1
theorem dX8_mostBeautiful_16 : decode cX8_mostBeautiful 16 = .ok (.iload_n 3, 1) := gdX8_mostBeautiful_9.2.2.2.1
theorem dX8_mostBeautiful_17 : decode cX8_mostBeautiful 17 = .ok (.invokevirtual 165, 3) := gdX8_mostBeautiful_9.2.2.2.2.1
theorem dX8_mostBeautiful_20 : decode cX8_mostBeautiful 20 = .ok (.ifCond .eq 11, 3) := gdX8_mostBeautiful_9.2.2.2.2.2.1
theorem dX8_mostBeautiful_23 : decode cX8_mostBeautiful 23 = .ok (.aload_n 0, 1) := gdX8_mostBeautiful_9.2.2.2.2.2.2.1
theorem dX8_mostBeautiful_24 : decode cX8_mostBeautiful 24 = .ok (.iload_n 3, 1) := gdX8_mostBeautiful_9.2.2.2.2.2.2.2
set_option maxRecDepth 20000 in
theorem gdX8_mostBeautiful_25 : decode cX8_mostBeautiful 25 = .ok (.invokevirtual 250, 3) ∧ decode cX8_mostBeautiful 28 = .ok (.goto 4, 3) ∧ decode cX8_mostBeautiful 31 = .ok (.iconst (-1), 1) ∧ decode cX8_mostBeautiful 32 = .ok (.istore 4, 2) ∧ decode cX8_mostBeautiful 34 = .ok (.iload 4, 2) ∧ decode cX8_mostBeautiful 36 = .ok (.iload_n 2, 1) ∧ decode cX8_mostBeautiful 37 = .ok (.if_icmp .le 8, 3) ∧ decode cX8_mostBeautiful 40 = .ok (.iload_n 3, 1) := by decide +kernel
theorem dX8_mostBeautiful_25 : decode cX8_mostBeautiful 25 = .ok (.invokevirtual 250, 3) := gdX8_mostBeautiful_25.1
theorem dX8_mostBeautiful_28 : decode cX8_mostBeautiful 28 = .ok (.goto 4, 3) := gdX8_mostBeautiful_25.2.1
theorem dX8_mostBeautiful_31 : decode cX8_mostBeautiful 31 = .ok (.iconst (-1), 1) := gdX8_mostBeautiful_25.2.2.1
theorem dX8_mostBeautiful_32 : decode cX8_mostBeautiful 32 = .ok (.istore 4, 2) := gdX8_mostBeautiful_25.2.2.2.1
theorem dX8_mostBeautiful_34 : decode cX8_mostBeautiful 34 = .ok (.iload 4, 2) := gdX8_mostBeautiful_25.2.2.2.2.1
theorem dX8_mostBeautiful_36 : decode cX8_mostBeautiful 36 = .ok (.iload_n 2, 1) := gdX8_mostBeautiful_25.2.2.2.2.2.1
theorem dX8_mostBeautiful_37 : decode cX8_mostBeautiful 37 = .ok (.if_icmp .le 8, 3) := gdX8_mostBeautiful_25.2.2.2.2.2.2.1
theorem dX8_mostBeautiful_40 : decode cX8_mostBeautiful 40 = .ok (.iload_n 3, 1) := gdX8_mostBeautiful_25.2.2.2.2.2.2.2
set_option maxRecDepth 20000 in
theorem gdX8_mostBeautiful_41 : decode cX8_mostBeautiful 41 = .ok (.istore_n 1, 1) ∧ decode cX8_mostBeautiful 42 = .ok (.iload 4, 2) ∧ decode cX8_mostBeautiful 44 = .ok (.istore_n 2, 1) ∧ decode cX8_mostBeautiful 45 = .ok (.iinc 3 1, 3) ∧ decode cX8_mostBeautiful 48 = .ok (.goto (-42), 3) ∧ decode cX8_mostBeautiful 51 = .ok (.iload_n 1, 1) ∧ decode cX8_mostBeautiful 52 = .ok (.ireturn, 1) := by decide +kernel
theorem dX8_mostBeautiful_41 : decode cX8_mostBeautiful 41 = .ok (.istore_n 1, 1) := gdX8_mostBeautiful_41.1
theorem dX8_mostBeautiful_42 : decode cX8_mostBeautiful 42 = .ok (.iload 4, 2) := gdX8_mostBeautiful_41.2.1
theorem dX8_mostBeautiful_44 : decode cX8_mostBeautiful 44 = .ok (.istore_n 2, 1) := gdX8_mostBeautiful_41.2.2.1
theorem dX8_mostBeautiful_45 : decode cX8_mostBeautiful 45 = .ok (.iinc 3 1, 3) := gdX8_mostBeautiful_41.2.2.2.1
theorem dX8_mostBeautiful_48 : decode cX8_mostBeautiful 48 = .ok (.goto (-42), 3) := gdX8_mostBeautiful_41.2.2.2.2.1
theorem dX8_mostBeautiful_51 : decode cX8_mostBeautiful 51 = .ok (.iload_n 1, 1) := gdX8_mostBeautiful_41.2.2.2.2.2.1
theorem dX8_mostBeautiful_52 : decode cX8_mostBeautiful 52 = .ok (.ireturn, 1) := gdX8_mostBeautiful_41.2.2.2.2.2.2
set_option maxRecDepth 20000 in
theorem gdX8_mostBlind_0 : decode cX8_mostBlind 0 = .ok (.aload_n 0, 1) ∧ decode cX8_mostBlind 1 = .ok (.getfield 25, 3) ∧ decode cX8_mostBlind 4 = .ok (.getfield 212, 3) ∧ decode cX8_mostBlind 7 = .ok (.iload_n 1, 1) ∧ decode cX8_mostBlind 8 = .ok (.iaload, 1) ∧ decode cX8_mostBlind 9 = .ok (.iconst 2, 1) ∧ decode cX8_mostBlind 10 = .ok (.if_icmp .ne 7, 3) ∧ decode cX8_mostBlind 13 = .ok (.iconst 5, 1) := by decide +kernel
theorem dX8_mostBlind_0 : decode cX8_mostBlind 0 = .ok (.aload_n 0, 1) := gdX8_mostBlind_0.1
theorem dX8_mostBlind_1 : decode cX8_mostBlind 1 = .ok (.getfield 25, 3) := gdX8_mostBlind_0.2.1
theorem dX8_mostBlind_4 : decode cX8_mostBlind 4 = .ok (.getfield 212, 3) := gdX8_mostBlind_0.2.2.1
theorem dX8_mostBlind_7 : decode cX8_mostBlind 7 = .ok (.iload_n 1, 1) := gdX8_mostBlind_0.2.2.2.1
theorem dX8_mostBlind_8 : decode cX8_mostBlind 8 = .ok (.iaload, 1) := gdX8_mostBlind_0.2.2.2.2.1
theorem dX8_mostBlind_9 : decode cX8_mostBlind 9 = .ok (.iconst 2, 1) := gdX8_mostBlind_0.2.2.2.2.2.1
theorem dX8_mostBlind_10 : decode cX8_mostBlind 10 = .ok (.if_icmp .ne 7, 3) := gdX8_mostBlind_0.2.2.2.2.2.2.1
theorem dX8_mostBlind_13 : decode cX8_mostBlind 13 = .ok (.iconst 5, 1) := gdX8_mostBlind_0.2.2.2.2.2.2.2
set_option maxRecDepth 20000 in
theorem gdX8_mostBlind_14 : decode cX8_mostBlind 14 = .ok (.goto 4, 3) ∧ decode cX8_mostBlind 17 = .ok (.iconst 0, 1) ∧ decode cX8_mostBlind 18 = .ok (.ireturn, 1) := by decide +kernel
theorem dX8_mostBlind_14 : decode cX8_mostBlind 14 = .ok (.goto 4, 3) := gdX8_mostBlind_14.1
theorem dX8_mostBlind_17 : decode cX8_mostBlind 17 = .ok (.iconst 0, 1) := gdX8_mostBlind_14.2.1
theorem dX8_mostBlind_18 : decode cX8_mostBlind 18 = .ok (.ireturn, 1) := gdX8_mostBlind_14.2.2
set_option maxRecDepth 20000 in
theorem gdX8_noCity_0 : decode cX8_noCity 0 = .ok (.aload_n 0, 1) ∧ decode cX8_noCity 1 = .ok (.getfield 25, 3) ∧ decode cX8_noCity 4 = .ok (.invokevirtual 275, 3) ∧ decode cX8_noCity 7 = .ok (.ireturn, 1) := by decide +kernel
theorem dX8_noCity_0 : decode cX8_noCity 0 = .ok (.aload_n 0, 1) := gdX8_noCity_0.1
theorem dX8_noCity_1 : decode cX8_noCity 1 = .ok (.getfield 25, 3) := gdX8_noCity_0.2.1
theorem dX8_noCity_4 : decode cX8_noCity 4 = .ok (.invokevirtual 275, 3) := gdX8_noCity_0.2.2.1
theorem dX8_noCity_7 : decode cX8_noCity 7 = .ok (.ireturn, 1) := gdX8_noCity_0.2.2.2
set_option maxRecDepth 20000 in
theorem gdX8_seenFrom_0 : decode cX8_seenFrom 0 = .ok (.iconst 0, 1) ∧ decode cX8_seenFrom 1 = .ok (.istore_n 2, 1) ∧ decode cX8_seenFrom 2 = .ok (.iconst 0, 1) ∧ decode cX8_seenFrom 3 = .ok (.istore_n 3, 1) ∧ decode cX8_seenFrom 4 = .ok (.iload_n 3, 1) ∧ decode cX8_seenFrom 5 = .ok (.bipush 8, 2) ∧ decode cX8_seenFrom 7 = .ok (.if_icmp .ge 67, 3) ∧ decode cX8_seenFrom 10 = .ok (.aload_n 0, 1) := by decide +kernel
theorem dX8_seenFrom_0 : decode cX8_seenFrom 0 = .ok (.iconst 0, 1) := gdX8_seenFrom_0.1
theorem dX8_seenFrom_1 : decode cX8_seenFrom 1 = .ok (.istore_n 2, 1) := gdX8_seenFrom_0.2.1
theorem dX8_seenFrom_2 : decode cX8_seenFrom 2 = .ok (.iconst 0, 1) := gdX8_seenFrom_0.2.2.1
theorem dX8_seenFrom_3 : decode cX8_seenFrom 3 = .ok (.istore_n 3, 1) := gdX8_seenFrom_0.2.2.2.1
theorem dX8_seenFrom_4 : decode cX8_seenFrom 4 = .ok (.iload_n 3, 1) := gdX8_seenFrom_0.2.2.2.2.1
theorem dX8_seenFrom_5 : decode cX8_seenFrom 5 = .ok (.bipush 8, 2) := gdX8_seenFrom_0.2.2.2.2.2.1
theorem dX8_seenFrom_7 : decode cX8_seenFrom 7 = .ok (.if_icmp .ge 67, 3) := gdX8_seenFrom_0.2.2.2.2.2.2.1
theorem dX8_seenFrom_10 : decode cX8_seenFrom 10 = .ok (.aload_n 0, 1) := gdX8_seenFrom_0.2.2.2.2.2.2.2
set_option maxRecDepth 20000 in
theorem gdX8_seenFrom_11 : decode cX8_seenFrom 11 = .ok (.getfield 48, 3) ∧ decode cX8_seenFrom 14 = .ok (.getfield 314, 3) ∧ decode cX8_seenFrom 17 = .ok (.iload_n 1, 1) ∧ decode cX8_seenFrom 18 = .ok (.bipush 8, 2) ∧ decode cX8_seenFrom 20 = .ok (.imul, 1) ∧ decode cX8_seenFrom 21 = .ok (.iload_n 3, 1) ∧ decode cX8_seenFrom 22 = .ok (.iadd, 1) ∧ decode cX8_seenFrom 23 = .ok (.iaload, 1) := by decide +kernel
theorem dX8_seenFrom_11 : decode cX8_seenFrom 11 = .ok (.getfield 48, 3) := gdX8_seenFrom_11.1
theorem dX8_seenFrom_14 : decode cX8_seenFrom 14 = .ok (.getfield 314, 3) := gdX8_seenFrom_11.2.1
theorem dX8_seenFrom_17 : decode cX8_seenFrom 17 = .ok (.iload_n 1, 1) := gdX8_seenFrom_11.2.2.1
theorem dX8_seenFrom_18 : decode cX8_seenFrom 18 = .ok (.bipush 8, 2) := gdX8_seenFrom_11.2.2.2.1
theorem dX8_seenFrom_20 : decode cX8_seenFrom 20 = .ok (.imul, 1) := gdX8_seenFrom_11.2.2.2.2.1
theorem dX8_seenFrom_21 : decode cX8_seenFrom 21 = .ok (.iload_n 3, 1) := gdX8_seenFrom_11.2.2.2.2.2.1
theorem dX8_seenFrom_22 : decode cX8_seenFrom 22 = .ok (.iadd, 1) := gdX8_seenFrom_11.2.2.2.2.2.2.1
theorem dX8_seenFrom_23 : decode cX8_seenFrom 23 = .ok (.iaload, 1) := gdX8_seenFrom_11.2.2.2.2.2.2.2
set_option maxRecDepth 20000 in
theorem gdX8_seenFrom_24 : decode cX8_seenFrom 24 = .ok (.istore 4, 2) ∧ decode cX8_seenFrom 26 = .ok (.iconst 0, 1) ∧ decode cX8_seenFrom 27 = .ok (.istore 5, 2) ∧ decode cX8_seenFrom 29 = .ok (.iload 5, 2) ∧ decode cX8_seenFrom 31 = .ok (.bipush 10, 2) ∧ decode cX8_seenFrom 33 = .ok (.if_icmp .ge 35, 3) ∧ decode cX8_seenFrom 36 = .ok (.iload 4, 2) ∧ decode cX8_seenFrom 38 = .ok (.iconst (-1), 1) := by decide +kernel
theorem dX8_seenFrom_24 : decode cX8_seenFrom 24 = .ok (.istore 4, 2) := gdX8_seenFrom_24.1
theorem dX8_seenFrom_26 : decode cX8_seenFrom 26 = .ok (.iconst 0, 1) := gdX8_seenFrom_24.2.1
theorem dX8_seenFrom_27 : decode cX8_seenFrom 27 = .ok (.istore 5, 2) := gdX8_seenFrom_24.2.2.1
theorem dX8_seenFrom_29 : decode cX8_seenFrom 29 = .ok (.iload 5, 2) := gdX8_seenFrom_24.2.2.2.1
theorem dX8_seenFrom_31 : decode cX8_seenFrom 31 = .ok (.bipush 10, 2) := gdX8_seenFrom_24.2.2.2.2.1
theorem dX8_seenFrom_33 : decode cX8_seenFrom 33 = .ok (.if_icmp .ge 35, 3) := gdX8_seenFrom_24.2.2.2.2.2.1
theorem dX8_seenFrom_36 : decode cX8_seenFrom 36 = .ok (.iload 4, 2) := gdX8_seenFrom_24.2.2.2.2.2.2.1
theorem dX8_seenFrom_38 : decode cX8_seenFrom 38 = .ok (.iconst (-1), 1) := gdX8_seenFrom_24.2.2.2.2.2.2.2
set_option maxRecDepth 20000 in
theorem gdX8_seenFrom_39 : decode cX8_seenFrom 39 = .ok (.if_icmp .eq 29, 3) ∧ decode cX8_seenFrom 42 = .ok (.iinc 2 1, 3) ∧ decode cX8_seenFrom 45 = .ok (.aload_n 0, 1) ∧ decode cX8_seenFrom 46 = .ok (.getfield 48, 3) ∧ decode cX8_seenFrom 49 = .ok (.getfield 314, 3) ∧ decode cX8_seenFrom 52 = .ok (.iload 4, 2) ∧ decode cX8_seenFrom 54 = .ok (.bipush 8, 2) ∧ decode cX8_seenFrom 56 = .ok (.imul, 1) := by decide +kernel
theorem dX8_seenFrom_39 : decode cX8_seenFrom 39 = .ok (.if_icmp .eq 29, 3) := gdX8_seenFrom_39.1
theorem dX8_seenFrom_42 : decode cX8_seenFrom 42 = .ok (.iinc 2 1, 3) := gdX8_seenFrom_39.2.1
theorem dX8_seenFrom_45 : decode cX8_seenFrom 45 = .ok (.aload_n 0, 1) := gdX8_seenFrom_39.2.2.1
theorem dX8_seenFrom_46 : decode cX8_seenFrom 46 = .ok (.getfield 48, 3) := gdX8_seenFrom_39.2.2.2.1
theorem dX8_seenFrom_49 : decode cX8_seenFrom 49 = .ok (.getfield 314, 3) := gdX8_seenFrom_39.2.2.2.2.1
theorem dX8_seenFrom_52 : decode cX8_seenFrom 52 = .ok (.iload 4, 2) := gdX8_seenFrom_39.2.2.2.2.2.1
theorem dX8_seenFrom_54 : decode cX8_seenFrom 54 = .ok (.bipush 8, 2) := gdX8_seenFrom_39.2.2.2.2.2.2.1
theorem dX8_seenFrom_56 : decode cX8_seenFrom 56 = .ok (.imul, 1) := gdX8_seenFrom_39.2.2.2.2.2.2.2
set_option maxRecDepth 20000 in
theorem gdX8_seenFrom_57 : decode cX8_seenFrom 57 = .ok (.iload_n 3, 1) ∧ decode cX8_seenFrom 58 = .ok (.iadd, 1) ∧ decode cX8_seenFrom 59 = .ok (.iaload, 1) ∧ decode cX8_seenFrom 60 = .ok (.istore 4, 2) ∧ decode cX8_seenFrom 62 = .ok (.iinc 5 1, 3) ∧ decode cX8_seenFrom 65 = .ok (.goto (-36), 3) ∧ decode cX8_seenFrom 68 = .ok (.iinc 3 1, 3) ∧ decode cX8_seenFrom 71 = .ok (.goto (-67), 3) := by decide +kernel
theorem dX8_seenFrom_57 : decode cX8_seenFrom 57 = .ok (.iload_n 3, 1) := gdX8_seenFrom_57.1
theorem dX8_seenFrom_58 : decode cX8_seenFrom 58 = .ok (.iadd, 1) := gdX8_seenFrom_57.2.1
theorem dX8_seenFrom_59 : decode cX8_seenFrom 59 = .ok (.iaload, 1) := gdX8_seenFrom_57.2.2.1
theorem dX8_seenFrom_60 : decode cX8_seenFrom 60 = .ok (.istore 4, 2) := gdX8_seenFrom_57.2.2.2.1
theorem dX8_seenFrom_62 : decode cX8_seenFrom 62 = .ok (.iinc 5 1, 3) := gdX8_seenFrom_57.2.2.2.2.1
theorem dX8_seenFrom_65 : decode cX8_seenFrom 65 = .ok (.goto (-36), 3) := gdX8_seenFrom_57.2.2.2.2.2.1
theorem dX8_seenFrom_68 : decode cX8_seenFrom 68 = .ok (.iinc 3 1, 3) := gdX8_seenFrom_57.2.2.2.2.2.2.1
theorem dX8_seenFrom_71 : decode cX8_seenFrom 71 = .ok (.goto (-67), 3) := gdX8_seenFrom_57.2.2.2.2.2.2.2
theorem dX8_seenFrom_74 : decode cX8_seenFrom 74 = .ok (.iload_n 2, 1) := by decide +kernel
theorem dX8_seenFrom_75 : decode cX8_seenFrom 75 = .ok (.ireturn, 1) := by decide +kernel
set_option maxRecDepth 20000 in
theorem gdX8_status_0 : decode cX8_status 0 = .ok (.aload_n 0, 1) ∧ decode cX8_status 1 = .ok (.getfield 86, 3) ∧ decode cX8_status 4 = .ok (.ireturn, 1) := by decide +kernel
theorem dX8_status_0 : decode cX8_status 0 = .ok (.aload_n 0, 1) := gdX8_status_0.1
theorem dX8_status_1 : decode cX8_status 1 = .ok (.getfield 86, 3) := gdX8_status_0.2.1
theorem dX8_status_4 : decode cX8_status 4 = .ok (.ireturn, 1) := gdX8_status_0.2.2
set_option maxRecDepth 20000 in
theorem gdX8_within_0 : decode cX8_within 0 = .ok (.iload_n 0, 1) ∧ decode cX8_within 1 = .ok (.ifCond .lt 12, 3) ∧ decode cX8_within 4 = .ok (.iload_n 0, 1) ∧ decode cX8_within 5 = .ok (.iload_n 1, 1) ∧ decode cX8_within 6 = .ok (.if_icmp .ge 7, 3) ∧ decode cX8_within 9 = .ok (.iconst 1, 1) ∧ decode cX8_within 10 = .ok (.goto 4, 3) ∧ decode cX8_within 13 = .ok (.iconst 0, 1) := by decide +kernel
theorem dX8_within_0 : decode cX8_within 0 = .ok (.iload_n 0, 1) := gdX8_within_0.1
theorem dX8_within_1 : decode cX8_within 1 = .ok (.ifCond .lt 12, 3) := gdX8_within_0.2.1
theorem dX8_within_4 : decode cX8_within 4 = .ok (.iload_n 0, 1) := gdX8_within_0.2.2.1
theorem dX8_within_5 : decode cX8_within 5 = .ok (.iload_n 1, 1) := gdX8_within_0.2.2.2.1
theorem dX8_within_6 : decode cX8_within 6 = .ok (.if_icmp .ge 7, 3) := gdX8_within_0.2.2.2.2.1
theorem dX8_within_9 : decode cX8_within 9 = .ok (.iconst 1, 1) := gdX8_within_0.2.2.2.2.2.1
theorem dX8_within_10 : decode cX8_within 10 = .ok (.goto 4, 3) := gdX8_within_0.2.2.2.2.2.2.1
theorem dX8_within_13 : decode cX8_within 13 = .ok (.iconst 0, 1) := gdX8_within_0.2.2.2.2.2.2.2
theorem dX8_within_14 : decode cX8_within 14 = .ok (.ireturn, 1) := by decide +kernel
theorem jX8_canStep_X1 : ∀ w ∈ u_ws RX1 TX1 12, w ∈ wsX8_canStep := fun w h => List.mem_cons_of_mem _ (List.mem_append_right _ h)
theorem jX8_canStep_X8 : ∀ w ∈ u_ws RX8 TX8 13, w ∈ wsX8_canStep := fun w h => List.mem_cons_of_mem _ (List.mem_append_left _ (List.mem_append_right _ h))
theorem jX8_fault_X8 : ∀ w ∈ u_ws RX8 TX8 13, w ∈ wsX8_fault := fun w h => List.mem_cons_of_mem _ (List.mem_append_right _ h)
theorem jX8_fine_X8 : ∀ w ∈ u_ws RX8 TX8 13, w ∈ wsX8_fine := fun w h => List.mem_cons_of_mem _ (List.mem_append_right _ h)
theorem jX8_found_X8 : ∀ w ∈ u_ws RX8 TX8 13, w ∈ wsX8_found := fun w h => List.mem_cons_of_mem _ (List.mem_append_right _ h)
theorem jX8_goOneStep_X1 : ∀ w ∈ u_ws RX1 TX1 12, w ∈ wsX8_goOneStep := fun w h => List.mem_cons_of_mem _ (List.mem_append_left _ (List.mem_append_right _ h))
theorem jX8_goOneStep_X6 : ∀ w ∈ u_ws RX6 TX6 4, w ∈ wsX8_goOneStep := fun w h => List.mem_cons_of_mem _ (List.mem_append_right _ h)
theorem jX8_goOneStep_X8 : ∀ w ∈ u_ws RX8 TX8 13, w ∈ wsX8_goOneStep := fun w h => List.mem_cons_of_mem _ (List.mem_append_left _ (List.mem_append_left _ (List.mem_append_right _ h)))
theorem jX8_isPerson_X1 : ∀ w ∈ u_ws RX1 TX1 12, w ∈ wsX8_isPerson := fun w h => List.mem_cons_of_mem _ (List.mem_append_right _ h)
theorem jX8_isPerson_X8 : ∀ w ∈ u_ws RX8 TX8 13, w ∈ wsX8_isPerson := fun w h => List.mem_cons_of_mem _ (List.mem_append_left _ (List.mem_append_right _ h))
theorem jX8_lookAndPay_X1 : ∀ w ∈ u_ws RX1 TX1 12, w ∈ wsX8_lookAndPay := fun w h => List.mem_cons_of_mem _ (List.mem_append_right _ h)
theorem jX8_lookAndPay_X6 : ∀ w ∈ u_ws RX6 TX6 4, w ∈ wsX8_lookAndPay := fun w h => List.mem_cons_of_mem _ (List.mem_append_left _ (List.mem_append_right _ h))
theorem jX8_lookAndPay_X8 : ∀ w ∈ u_ws RX8 TX8 13, w ∈ wsX8_lookAndPay := fun w h => List.mem_cons_of_mem _ (List.mem_append_left _ (List.mem_append_left _ (List.mem_append_right _ h)))
theorem jX8_mostBeautiful_X8 : ∀ w ∈ u_ws RX8 TX8 13, w ∈ wsX8_mostBeautiful := fun w h => List.mem_cons_of_mem _ (List.mem_append_left _ (List.mem_append_left _ (List.mem_append_right _ h)))
theorem jX8_mostBlind_X1 : ∀ w ∈ u_ws RX1 TX1 12, w ∈ wsX8_mostBlind := fun w h => List.mem_cons_of_mem _ (List.mem_append_right _ h)
theorem jX8_mostBlind_X8 : ∀ w ∈ u_ws RX8 TX8 13, w ∈ wsX8_mostBlind := fun w h => List.mem_cons_of_mem _ (List.mem_append_left _ (List.mem_append_right _ h))
theorem jX8_noCity_X8 : ∀ w ∈ u_ws RX8 TX8 13, w ∈ wsX8_noCity := fun w h => List.mem_cons_of_mem _ (List.mem_append_left _ (List.mem_append_right _ h))
theorem jX8_seenFrom_X6 : ∀ w ∈ u_ws RX6 TX6 4, w ∈ wsX8_seenFrom := fun w h => List.mem_cons_of_mem _ (List.mem_append_right _ h)
theorem jX8_seenFrom_X8 : ∀ w ∈ u_ws RX8 TX8 13, w ∈ wsX8_seenFrom := fun w h => List.mem_cons_of_mem _ (List.mem_append_left _ (List.mem_append_right _ h))
theorem jX8_status_X8 : ∀ w ∈ u_ws RX8 TX8 13, w ∈ wsX8_status := fun w h => List.mem_cons_of_mem _ (List.mem_append_right _ h)
theorem hdS_X8_within : yX8_within.cls ≠ "java/lang/invoke/MethodHandle" ∧ yX8_within.cls ≠ "java/lang/invoke/VarHandle" ∧ (parseMethodDescriptor yX8_within.desc).map (fun d => d.parameters.length) = some 2 := by decide +kernel
theorem hdV_X1_isNone : yX1_isNone.cls = RX1 ∧ yX1_isNone.cls ≠ "java/lang/invoke/MethodHandle" ∧ yX1_isNone.cls ≠ "java/lang/invoke/VarHandle" ∧ (parseMethodDescriptor yX1_isNone.desc).map (fun d => d.parameters.length) = some 0 := by decide +kernel
theorem hdV_X8_lookAndPay : yX8_lookAndPay.cls = RX8 ∧ yX8_lookAndPay.cls ≠ "java/lang/invoke/MethodHandle" ∧ yX8_lookAndPay.cls ≠ "java/lang/invoke/VarHandle" ∧ (parseMethodDescriptor yX8_lookAndPay.desc).map (fun d => d.parameters.length) = some 2 := by decide +kernel
theorem hdV_X8_seenFrom : yX8_seenFrom.cls = RX8 ∧ yX8_seenFrom.cls ≠ "java/lang/invoke/MethodHandle" ∧ yX8_seenFrom.cls ≠ "java/lang/invoke/VarHandle" ∧ (parseMethodDescriptor yX8_seenFrom.desc).map (fun d => d.parameters.length) = some 1 := by decide +kernel
theorem unsub {x a k : Int32} {K : Int} (hK : k.toInt = K) (h0 : 0 ≤ K ∧ K ≤ 100) (e : x = a - k) : ¬ (0 ≤ x.toInt ∧ x.toInt < 6) ∨ a.toInt = x.toInt + K := by
  rcases Classical.em (0 ≤ x.toInt ∧ x.toInt < 6) with h | h
  · refine Or.inr ?_
    have e2 : a = x + k := by rw [e, Int32.sub_add_cancel]
    exact addI (A := x.toInt) (B := K) e2 rfl hK (by first | (and_intros <;> first | with_reducible assumption | (refine Int.le_antisymm ?_ ?_ <;> omega) | omega) | omega) (by first | (and_intros <;> first | with_reducible assumption | (refine Int.le_antisymm ?_ ?_ <;> omega) | omega) | omega)
  · exact Or.inl h
set_option maxHeartbeats 4000000 in
set_option maxRecDepth 100000 in
theorem s_X8_within (l : Launch) (D : va_G) (cI cZ cC cS : ClassId) (sq : Nat → Nat) (sz : Nat) (a : Int32) (b : Int32) : mI l yX8_within wsX8_within 0 0 D (tyW cI cZ cC cS) sq [] sz [.int a, .int b] (fun r w => ((0 ≤ a.toInt ∧ a.toInt < b.toInt) ∧ r = 1 ∧ w = []) ∨ ((a.toInt < 0 ∨ b.toInt ≤ a.toInt) ∧ r = 0 ∧ w = [])) := by
  refine b_metI (cc := cX8_within) (maxL := 2) (ret := (some .boolean)) (by decide) rfl (Nat.le_of_ble_eq_true rfl) ?_
  intro p e s m below meth c ls A H X hsz hP hK hT hD hA hS hl
  have S : CallFix p m c cX8_within 2 s ([.int a, .int b] : List Value).toArray wsX8_within RX8 := X.1
  have hl : lv_has ls 2 [(0, .int a), (1, .int b)] := hl
  refine lv_iload_n S.1 S.2.1 dX8_within_0 rfl (lv_at hl 0 rfl) ?_
  refine lv_if_lt (tgt := 13) S.1 S.2.1 dX8_within_1 (by decide) (fun c_1 => ?_) (fun c_1 => ?_)
  · rw [lt2 (a := a) (b := 0) (A := a.toInt) (B := 0) rfl rfl] at c_1
    refine lv_iconst (v := (0)) S.1 S.2.1 dX8_within_13 (by decide) ?_
    exact b_zret S.1 S.2.1 X.2.1 X.2.2.1 rfl hP hD hS (Or.inr (⟨(by first | with_reducible assumption | decide | (and_intros <;> first | with_reducible assumption | (intros; refine Int.le_antisymm ?_ ?_ <;> omega) | omega) | assumption | (rw [show Int32.toInt 0 = 0 from rfl]; omega)), rfl, rfl⟩)) dX8_within_14
  · rw [lt2 (a := a) (b := 0) (A := a.toInt) (B := 0) rfl rfl] at c_1
    refine lv_iload_n S.1 S.2.1 dX8_within_4 rfl (lv_at hl 0 rfl) ?_
    refine lv_iload_n S.1 S.2.1 dX8_within_5 rfl (lv_at hl 1 rfl) ?_
    refine lv_icmp_ge (tgt := 13) S.1 S.2.1 dX8_within_6 (by decide) (fun c_2 => ?_) (fun c_2 => ?_)
    · rw [le2 (a := b) (b := a) (A := b.toInt) (B := a.toInt) rfl rfl] at c_2
      refine lv_iconst (v := (0)) S.1 S.2.1 dX8_within_13 (by decide) ?_
      exact b_zret S.1 S.2.1 X.2.1 X.2.2.1 rfl hP hD hS (Or.inr (⟨(by first | with_reducible assumption | decide | (and_intros <;> first | with_reducible assumption | (intros; refine Int.le_antisymm ?_ ?_ <;> omega) | omega) | assumption | (rw [show Int32.toInt 0 = 0 from rfl]; omega)), rfl, rfl⟩)) dX8_within_14
    · rw [le2 (a := b) (b := a) (A := b.toInt) (B := a.toInt) rfl rfl] at c_2
      refine lv_iconst (v := (1)) S.1 S.2.1 dX8_within_9 (by decide) ?_
      refine lv_goto (tgt := 14) S.1 S.2.1 dX8_within_10 (by decide) ?_
      exact b_zret S.1 S.2.1 X.2.1 X.2.2.1 rfl hP hD hS (Or.inl ⟨(by first | with_reducible assumption | decide | (and_intros <;> first | with_reducible assumption | (intros; refine Int.le_antisymm ?_ ?_ <;> omega) | omega) | assumption | (rw [show Int32.toInt 0 = 0 from rfl]; omega)), rfl, rfl⟩) dX8_within_14
set_option maxHeartbeats 4000000 in
set_option maxRecDepth 100000 in
theorem s_X8_isSheet (l : Launch) (D : va_G) (cI cZ cC cS : ClassId) (sq : Nat → Nat) (sz : Nat) (a : Int32) : mI l yX8_isSheet wsX8_isSheet 1 40 D (tyW cI cZ cC cS) sq [] sz [.int a] (fun r w => ((0 ≤ a.toInt ∧ a.toInt < 8) ∧ r = 1 ∧ w = []) ∨ ((a.toInt < 0 ∨ 8 ≤ a.toInt) ∧ r = 0 ∧ w = [])) := by
  refine b_metI (cc := cX8_isSheet) (maxL := 1) (ret := (some .boolean)) (by decide) rfl (Nat.le_of_ble_eq_true rfl) ?_
  intro p e s m below meth c ls A H X hsz hP hK hT hD hA hS hl
  have S : CallFix p m c cX8_isSheet 1 s ([.int a] : List Value).toArray wsX8_isSheet RX8 := X.1
  have hl : lv_has ls 1 [(0, .int a)] := hl
  refine lv_iload_n S.1 S.2.1 dX8_isSheet_0 rfl (lv_at hl 0 rfl) ?_
  refine lv_bipush (v := (8)) S.1 S.2.1 dX8_isSheet_1 (by decide) ?_
  refine b_ai (wr := []) (b_runS (As := [.int a, .int 8]) (s_X8_within l D cI cZ cC cS sq H.size a (8)) S gX8_isSheet_X8_within rfl hdS_X8_within ⟨Nat.le_of_ble_eq_true rfl, Nat.le_of_ble_eq_true rfl⟩ ⟨Nat.le_of_ble_eq_true rfl, Nat.le_of_ble_eq_true rfl⟩ hK hT hS hA hP hD [] rfl (by decide) rfl hl.1 rfl (Nat.le_of_ble_eq_true rfl) dX8_isSheet_3) hP hD hS hA [] [] rfl rfl (by decide) (by decide) (fun r_1 w_2 H locs hw_3 hP hD hS => ?_)
  rcases hw_3 with ⟨hf_4, rfl, rfl⟩ | ⟨hf_5, rfl, rfl⟩
  · have hf_4 : 0 ≤ a.toInt ∧ a.toInt < ((8) : Int) := hf_4
    exact b_zret S.1 S.2.1 X.2.1 X.2.2.1 rfl hP hD hS (Or.inl ⟨(by first | with_reducible assumption | decide | (and_intros <;> first | with_reducible assumption | (intros; refine Int.le_antisymm ?_ ?_ <;> omega) | omega) | assumption | (rw [show Int32.toInt 0 = 0 from rfl]; omega)), rfl, rfl⟩) dX8_isSheet_6
  · have hf_5 : a.toInt < 0 ∨ ((8) : Int) ≤ a.toInt := hf_5
    exact b_zret S.1 S.2.1 X.2.1 X.2.2.1 rfl hP hD hS (Or.inr (⟨(by first | with_reducible assumption | decide | (and_intros <;> first | with_reducible assumption | (intros; refine Int.le_antisymm ?_ ?_ <;> omega) | omega) | assumption | (rw [show Int32.toInt 0 = 0 from rfl]; omega)), rfl, rfl⟩)) dX8_isSheet_6
set_option maxHeartbeats 4000000 in
set_option maxRecDepth 100000 in
theorem s_X8_isOwner (l : Launch) (D : va_G) (cI cZ cC cS : ClassId) (sq : Nat → Nat) (sz : Nat) (a : Int32) : mI l yX8_isOwner wsX8_isOwner 1 40 D (tyW cI cZ cC cS) sq [] sz [.int a] (fun r w => ((0 ≤ a.toInt ∧ a.toInt < 6) ∧ r = 1 ∧ w = []) ∨ ((a.toInt < 0 ∨ 6 ≤ a.toInt) ∧ r = 0 ∧ w = [])) := by
  refine b_metI (cc := cX8_isOwner) (maxL := 1) (ret := (some .boolean)) (by decide) rfl (Nat.le_of_ble_eq_true rfl) ?_
  intro p e s m below meth c ls A H X hsz hP hK hT hD hA hS hl
  have S : CallFix p m c cX8_isOwner 1 s ([.int a] : List Value).toArray wsX8_isOwner RX8 := X.1
  have hl : lv_has ls 1 [(0, .int a)] := hl
  refine lv_iload_n S.1 S.2.1 dX8_isOwner_0 rfl (lv_at hl 0 rfl) ?_
  refine lv_bipush (v := (6)) S.1 S.2.1 dX8_isOwner_1 (by decide) ?_
  refine b_ai (wr := []) (b_runS (As := [.int a, .int 6]) (s_X8_within l D cI cZ cC cS sq H.size a (6)) S gX8_isOwner_X8_within rfl hdS_X8_within ⟨Nat.le_of_ble_eq_true rfl, Nat.le_of_ble_eq_true rfl⟩ ⟨Nat.le_of_ble_eq_true rfl, Nat.le_of_ble_eq_true rfl⟩ hK hT hS hA hP hD [] rfl (by decide) rfl hl.1 rfl (Nat.le_of_ble_eq_true rfl) dX8_isOwner_3) hP hD hS hA [] [] rfl rfl (by decide) (by decide) (fun r_1 w_2 H locs hw_3 hP hD hS => ?_)
  rcases hw_3 with ⟨hf_4, rfl, rfl⟩ | ⟨hf_5, rfl, rfl⟩
  · have hf_4 : 0 ≤ a.toInt ∧ a.toInt < ((6) : Int) := hf_4
    exact b_zret S.1 S.2.1 X.2.1 X.2.2.1 rfl hP hD hS (Or.inl ⟨(by first | with_reducible assumption | decide | (and_intros <;> first | with_reducible assumption | (intros; refine Int.le_antisymm ?_ ?_ <;> omega) | omega) | assumption | (rw [show Int32.toInt 0 = 0 from rfl]; omega)), rfl, rfl⟩) dX8_isOwner_6
  · have hf_5 : a.toInt < 0 ∨ ((6) : Int) ≤ a.toInt := hf_5
    exact b_zret S.1 S.2.1 X.2.1 X.2.2.1 rfl hP hD hS (Or.inr (⟨(by first | with_reducible assumption | decide | (and_intros <;> first | with_reducible assumption | (intros; refine Int.le_antisymm ?_ ?_ <;> omega) | omega) | assumption | (rw [show Int32.toInt 0 = 0 from rfl]; omega)), rfl, rfl⟩)) dX8_isOwner_6
set_option maxHeartbeats 4000000 in
set_option maxRecDepth 100000 in
theorem s_X8_found_1 (l : Launch) (D : va_G) (cI cZ cC cS : ClassId) (sq : Nat → Nat) (sz : Nat) (x : Nat) (sa : Nat) (tp : Nat) (ct : Nat) (dr : Nat) (rd : Nat) (im : Nat) (vw : Nat) (vu : Nat) (wh : Nat) (mk : Nat) (ak : Nat) (lt : Int32) (fi : Int32) : mI l yX8_found wsX8_found 0 0 D (tyW cI cZ cC cS) sq [(x, .inr (8, [.ref sa, .ref tp, .ref ct, .ref dr, .ref rd, .ref im, .ref vw, .ref vu, .ref wh, .ref mk, .ref ak, .int lt, .int fi]))] sz [.ref x, .int 1] (fun r w => (r = -1000011 ∧ w = [(x, .inr (8, [.ref sa, .ref tp, .ref ct, .ref dr, .ref rd, .ref im, .ref vw, .ref vu, .ref wh, .ref mk, .ref ak, .int lt, .int 1]))])) := by
  refine b_metI (cc := cX8_found) (maxL := 2) (ret := (some .int)) (by decide) rfl (Nat.le_of_ble_eq_true rfl) ?_
  intro p e s m below meth c ls A H X hsz hP hK hT hD hA hS hl
  have S : CallFix p m c cX8_found 2 s ([.ref x, .int 1] : List Value).toArray wsX8_found RX8 := X.1
  have hl : lv_has ls 2 [(0, .ref x), (1, .int 1)] := hl
  have iX8 := jX8_found_X8
  refine lv_aload_n S.1 S.2.1 dX8_found_0 rfl (lv_at hl 0 rfl) ?_
  refine lv_iload_n S.1 S.2.1 dX8_found_1 rfl (lv_at hl 1 rfl) ?_
  refine b_put (v := .int 1) S iX8 tyX8 tyX8_ok nmX8 hK hP hD hS 0 rfl rfl 12 (by decide) (by decide +kernel) rfl rfl rfl (Nat.le_of_ble_eq_true rfl) dX8_found_2 (fun H locs hP hD hS => ?_)
  have hP : va_P D vwCl [(x, .inr (8, [.ref sa, .ref tp, .ref ct, .ref dr, .ref rd, .ref im, .ref vw, .ref vu, .ref wh, .ref mk, .ref ak, .int lt, .int 1]))] H := hP
  have hD : va_D A [(x, .inr (8, [.ref sa, .ref tp, .ref ct, .ref dr, .ref rd, .ref im, .ref vw, .ref vu, .ref wh, .ref mk, .ref ak, .int lt, .int 1]))] := hD
  refine lv_ldcw (v := (-1000010)) S.1 S.2.1 S.2.2.2.1 (S.2.2.2.2 (.constant RX8 310 (-1000010)) (by decide +kernel)) dX8_found_5 ?_
  refine lv_iload_n S.1 S.2.1 dX8_found_8 rfl (lv_at hl 1 rfl) ?_
  refine lv_isub S.1 S.2.1 dX8_found_9 ?_
  refine lv_topi (fun x_1 ex_1 => ?_)
  have ex_1 : x_1 = -1000011 := by rw [ex_1]; decide
  subst ex_1
  exact b_iret S.1 S.2.1 X.2.1 X.2.2.1 hP hD hS ⟨rfl, rfl⟩ dX8_found_10
set_option maxHeartbeats 4000000 in
set_option maxRecDepth 100000 in
theorem s_X8_found_2 (l : Launch) (D : va_G) (cI cZ cC cS : ClassId) (sq : Nat → Nat) (sz : Nat) (x : Nat) (sa : Nat) (tp : Nat) (ct : Nat) (dr : Nat) (rd : Nat) (im : Nat) (vw : Nat) (vu : Nat) (wh : Nat) (mk : Nat) (ak : Nat) (lt : Int32) (fi : Int32) : mI l yX8_found wsX8_found 0 0 D (tyW cI cZ cC cS) sq [(x, .inr (8, [.ref sa, .ref tp, .ref ct, .ref dr, .ref rd, .ref im, .ref vw, .ref vu, .ref wh, .ref mk, .ref ak, .int lt, .int fi]))] sz [.ref x, .int 2] (fun r w => (r = -1000012 ∧ w = [(x, .inr (8, [.ref sa, .ref tp, .ref ct, .ref dr, .ref rd, .ref im, .ref vw, .ref vu, .ref wh, .ref mk, .ref ak, .int lt, .int 2]))])) := by
  refine b_metI (cc := cX8_found) (maxL := 2) (ret := (some .int)) (by decide) rfl (Nat.le_of_ble_eq_true rfl) ?_
  intro p e s m below meth c ls A H X hsz hP hK hT hD hA hS hl
  have S : CallFix p m c cX8_found 2 s ([.ref x, .int 2] : List Value).toArray wsX8_found RX8 := X.1
  have hl : lv_has ls 2 [(0, .ref x), (1, .int 2)] := hl
  have iX8 := jX8_found_X8
  refine lv_aload_n S.1 S.2.1 dX8_found_0 rfl (lv_at hl 0 rfl) ?_
  refine lv_iload_n S.1 S.2.1 dX8_found_1 rfl (lv_at hl 1 rfl) ?_
  refine b_put (v := .int 2) S iX8 tyX8 tyX8_ok nmX8 hK hP hD hS 0 rfl rfl 12 (by decide) (by decide +kernel) rfl rfl rfl (Nat.le_of_ble_eq_true rfl) dX8_found_2 (fun H locs hP hD hS => ?_)
  have hP : va_P D vwCl [(x, .inr (8, [.ref sa, .ref tp, .ref ct, .ref dr, .ref rd, .ref im, .ref vw, .ref vu, .ref wh, .ref mk, .ref ak, .int lt, .int 2]))] H := hP
  have hD : va_D A [(x, .inr (8, [.ref sa, .ref tp, .ref ct, .ref dr, .ref rd, .ref im, .ref vw, .ref vu, .ref wh, .ref mk, .ref ak, .int lt, .int 2]))] := hD
  refine lv_ldcw (v := (-1000010)) S.1 S.2.1 S.2.2.2.1 (S.2.2.2.2 (.constant RX8 310 (-1000010)) (by decide +kernel)) dX8_found_5 ?_
  refine lv_iload_n S.1 S.2.1 dX8_found_8 rfl (lv_at hl 1 rfl) ?_
  refine lv_isub S.1 S.2.1 dX8_found_9 ?_
  refine lv_topi (fun x_1 ex_1 => ?_)
  have ex_1 : x_1 = -1000012 := by rw [ex_1]; decide
  subst ex_1
  exact b_iret S.1 S.2.1 X.2.1 X.2.2.1 hP hD hS ⟨rfl, rfl⟩ dX8_found_10
set_option maxHeartbeats 4000000 in
set_option maxRecDepth 100000 in
theorem s_X8_found_3 (l : Launch) (D : va_G) (cI cZ cC cS : ClassId) (sq : Nat → Nat) (sz : Nat) (x : Nat) (sa : Nat) (tp : Nat) (ct : Nat) (dr : Nat) (rd : Nat) (im : Nat) (vw : Nat) (vu : Nat) (wh : Nat) (mk : Nat) (ak : Nat) (lt : Int32) (fi : Int32) : mI l yX8_found wsX8_found 0 0 D (tyW cI cZ cC cS) sq [(x, .inr (8, [.ref sa, .ref tp, .ref ct, .ref dr, .ref rd, .ref im, .ref vw, .ref vu, .ref wh, .ref mk, .ref ak, .int lt, .int fi]))] sz [.ref x, .int 3] (fun r w => (r = -1000013 ∧ w = [(x, .inr (8, [.ref sa, .ref tp, .ref ct, .ref dr, .ref rd, .ref im, .ref vw, .ref vu, .ref wh, .ref mk, .ref ak, .int lt, .int 3]))])) := by
  refine b_metI (cc := cX8_found) (maxL := 2) (ret := (some .int)) (by decide) rfl (Nat.le_of_ble_eq_true rfl) ?_
  intro p e s m below meth c ls A H X hsz hP hK hT hD hA hS hl
  have S : CallFix p m c cX8_found 2 s ([.ref x, .int 3] : List Value).toArray wsX8_found RX8 := X.1
  have hl : lv_has ls 2 [(0, .ref x), (1, .int 3)] := hl
  have iX8 := jX8_found_X8
  refine lv_aload_n S.1 S.2.1 dX8_found_0 rfl (lv_at hl 0 rfl) ?_
  refine lv_iload_n S.1 S.2.1 dX8_found_1 rfl (lv_at hl 1 rfl) ?_
  refine b_put (v := .int 3) S iX8 tyX8 tyX8_ok nmX8 hK hP hD hS 0 rfl rfl 12 (by decide) (by decide +kernel) rfl rfl rfl (Nat.le_of_ble_eq_true rfl) dX8_found_2 (fun H locs hP hD hS => ?_)
  have hP : va_P D vwCl [(x, .inr (8, [.ref sa, .ref tp, .ref ct, .ref dr, .ref rd, .ref im, .ref vw, .ref vu, .ref wh, .ref mk, .ref ak, .int lt, .int 3]))] H := hP
  have hD : va_D A [(x, .inr (8, [.ref sa, .ref tp, .ref ct, .ref dr, .ref rd, .ref im, .ref vw, .ref vu, .ref wh, .ref mk, .ref ak, .int lt, .int 3]))] := hD
  refine lv_ldcw (v := (-1000010)) S.1 S.2.1 S.2.2.2.1 (S.2.2.2.2 (.constant RX8 310 (-1000010)) (by decide +kernel)) dX8_found_5 ?_
  refine lv_iload_n S.1 S.2.1 dX8_found_8 rfl (lv_at hl 1 rfl) ?_
  refine lv_isub S.1 S.2.1 dX8_found_9 ?_
  refine lv_topi (fun x_1 ex_1 => ?_)
  have ex_1 : x_1 = -1000013 := by rw [ex_1]; decide
  subst ex_1
  exact b_iret S.1 S.2.1 X.2.1 X.2.2.1 hP hD hS ⟨rfl, rfl⟩ dX8_found_10
set_option maxHeartbeats 4000000 in
set_option maxRecDepth 100000 in
theorem s_X8_found_4 (l : Launch) (D : va_G) (cI cZ cC cS : ClassId) (sq : Nat → Nat) (sz : Nat) (x : Nat) (sa : Nat) (tp : Nat) (ct : Nat) (dr : Nat) (rd : Nat) (im : Nat) (vw : Nat) (vu : Nat) (wh : Nat) (mk : Nat) (ak : Nat) (lt : Int32) (fi : Int32) : mI l yX8_found wsX8_found 0 0 D (tyW cI cZ cC cS) sq [(x, .inr (8, [.ref sa, .ref tp, .ref ct, .ref dr, .ref rd, .ref im, .ref vw, .ref vu, .ref wh, .ref mk, .ref ak, .int lt, .int fi]))] sz [.ref x, .int 4] (fun r w => (r = -1000014 ∧ w = [(x, .inr (8, [.ref sa, .ref tp, .ref ct, .ref dr, .ref rd, .ref im, .ref vw, .ref vu, .ref wh, .ref mk, .ref ak, .int lt, .int 4]))])) := by
  refine b_metI (cc := cX8_found) (maxL := 2) (ret := (some .int)) (by decide) rfl (Nat.le_of_ble_eq_true rfl) ?_
  intro p e s m below meth c ls A H X hsz hP hK hT hD hA hS hl
  have S : CallFix p m c cX8_found 2 s ([.ref x, .int 4] : List Value).toArray wsX8_found RX8 := X.1
  have hl : lv_has ls 2 [(0, .ref x), (1, .int 4)] := hl
  have iX8 := jX8_found_X8
  refine lv_aload_n S.1 S.2.1 dX8_found_0 rfl (lv_at hl 0 rfl) ?_
  refine lv_iload_n S.1 S.2.1 dX8_found_1 rfl (lv_at hl 1 rfl) ?_
  refine b_put (v := .int 4) S iX8 tyX8 tyX8_ok nmX8 hK hP hD hS 0 rfl rfl 12 (by decide) (by decide +kernel) rfl rfl rfl (Nat.le_of_ble_eq_true rfl) dX8_found_2 (fun H locs hP hD hS => ?_)
  have hP : va_P D vwCl [(x, .inr (8, [.ref sa, .ref tp, .ref ct, .ref dr, .ref rd, .ref im, .ref vw, .ref vu, .ref wh, .ref mk, .ref ak, .int lt, .int 4]))] H := hP
  have hD : va_D A [(x, .inr (8, [.ref sa, .ref tp, .ref ct, .ref dr, .ref rd, .ref im, .ref vw, .ref vu, .ref wh, .ref mk, .ref ak, .int lt, .int 4]))] := hD
  refine lv_ldcw (v := (-1000010)) S.1 S.2.1 S.2.2.2.1 (S.2.2.2.2 (.constant RX8 310 (-1000010)) (by decide +kernel)) dX8_found_5 ?_
  refine lv_iload_n S.1 S.2.1 dX8_found_8 rfl (lv_at hl 1 rfl) ?_
  refine lv_isub S.1 S.2.1 dX8_found_9 ?_
  refine lv_topi (fun x_1 ex_1 => ?_)
  have ex_1 : x_1 = -1000014 := by rw [ex_1]; decide
  subst ex_1
  exact b_iret S.1 S.2.1 X.2.1 X.2.2.1 hP hD hS ⟨rfl, rfl⟩ dX8_found_10
set_option maxHeartbeats 4000000 in
set_option maxRecDepth 100000 in
theorem s_X8_found_5 (l : Launch) (D : va_G) (cI cZ cC cS : ClassId) (sq : Nat → Nat) (sz : Nat) (x : Nat) (sa : Nat) (tp : Nat) (ct : Nat) (dr : Nat) (rd : Nat) (im : Nat) (vw : Nat) (vu : Nat) (wh : Nat) (mk : Nat) (ak : Nat) (lt : Int32) (fi : Int32) : mI l yX8_found wsX8_found 0 0 D (tyW cI cZ cC cS) sq [(x, .inr (8, [.ref sa, .ref tp, .ref ct, .ref dr, .ref rd, .ref im, .ref vw, .ref vu, .ref wh, .ref mk, .ref ak, .int lt, .int fi]))] sz [.ref x, .int 5] (fun r w => (r = -1000015 ∧ w = [(x, .inr (8, [.ref sa, .ref tp, .ref ct, .ref dr, .ref rd, .ref im, .ref vw, .ref vu, .ref wh, .ref mk, .ref ak, .int lt, .int 5]))])) := by
  refine b_metI (cc := cX8_found) (maxL := 2) (ret := (some .int)) (by decide) rfl (Nat.le_of_ble_eq_true rfl) ?_
  intro p e s m below meth c ls A H X hsz hP hK hT hD hA hS hl
  have S : CallFix p m c cX8_found 2 s ([.ref x, .int 5] : List Value).toArray wsX8_found RX8 := X.1
  have hl : lv_has ls 2 [(0, .ref x), (1, .int 5)] := hl
  have iX8 := jX8_found_X8
  refine lv_aload_n S.1 S.2.1 dX8_found_0 rfl (lv_at hl 0 rfl) ?_
  refine lv_iload_n S.1 S.2.1 dX8_found_1 rfl (lv_at hl 1 rfl) ?_
  refine b_put (v := .int 5) S iX8 tyX8 tyX8_ok nmX8 hK hP hD hS 0 rfl rfl 12 (by decide) (by decide +kernel) rfl rfl rfl (Nat.le_of_ble_eq_true rfl) dX8_found_2 (fun H locs hP hD hS => ?_)
  have hP : va_P D vwCl [(x, .inr (8, [.ref sa, .ref tp, .ref ct, .ref dr, .ref rd, .ref im, .ref vw, .ref vu, .ref wh, .ref mk, .ref ak, .int lt, .int 5]))] H := hP
  have hD : va_D A [(x, .inr (8, [.ref sa, .ref tp, .ref ct, .ref dr, .ref rd, .ref im, .ref vw, .ref vu, .ref wh, .ref mk, .ref ak, .int lt, .int 5]))] := hD
  refine lv_ldcw (v := (-1000010)) S.1 S.2.1 S.2.2.2.1 (S.2.2.2.2 (.constant RX8 310 (-1000010)) (by decide +kernel)) dX8_found_5 ?_
  refine lv_iload_n S.1 S.2.1 dX8_found_8 rfl (lv_at hl 1 rfl) ?_
  refine lv_isub S.1 S.2.1 dX8_found_9 ?_
  refine lv_topi (fun x_1 ex_1 => ?_)
  have ex_1 : x_1 = -1000015 := by rw [ex_1]; decide
  subst ex_1
  exact b_iret S.1 S.2.1 X.2.1 X.2.2.1 hP hD hS ⟨rfl, rfl⟩ dX8_found_10
set_option maxHeartbeats 4000000 in
set_option maxRecDepth 100000 in
theorem s_X8_fine (l : Launch) (D : va_G) (cI cZ cC cS : ClassId) (sq : Nat → Nat) (sz : Nat) (x : Nat) (an : Int32) (sa : Nat) (tp : Nat) (ct : Nat) (dr : Nat) (rd : Nat) (im : Nat) (vw : Nat) (vu : Nat) (wh : Nat) (mk : Nat) (ak : Nat) (lt : Int32) (fi : Int32) : mI l yX8_fine wsX8_fine 0 0 D (tyW cI cZ cC cS) sq [(x, .inr (8, [.ref sa, .ref tp, .ref ct, .ref dr, .ref rd, .ref im, .ref vw, .ref vu, .ref wh, .ref mk, .ref ak, .int lt, .int fi]))] sz [.ref x, .int an] (fun r w => (r = an ∧ w = [(x, .inr (8, [.ref sa, .ref tp, .ref ct, .ref dr, .ref rd, .ref im, .ref vw, .ref vu, .ref wh, .ref mk, .ref ak, .int lt, .int 0]))])) := by
  refine b_metI (cc := cX8_fine) (maxL := 2) (ret := (some .int)) (by decide) rfl (Nat.le_of_ble_eq_true rfl) ?_
  intro p e s m below meth c ls A H X hsz hP hK hT hD hA hS hl
  have S : CallFix p m c cX8_fine 2 s ([.ref x, .int an] : List Value).toArray wsX8_fine RX8 := X.1
  have hl : lv_has ls 2 [(0, .ref x), (1, .int an)] := hl
  have iX8 := jX8_fine_X8
  refine lv_aload_n S.1 S.2.1 dX8_fine_0 rfl (lv_at hl 0 rfl) ?_
  refine lv_iconst (v := (0)) S.1 S.2.1 dX8_fine_1 (by decide) ?_
  refine b_put (v := .int 0) S iX8 tyX8 tyX8_ok nmX8 hK hP hD hS 0 rfl rfl 12 (by decide) (by decide +kernel) rfl rfl rfl (Nat.le_of_ble_eq_true rfl) dX8_fine_2 (fun H locs hP hD hS => ?_)
  have hP : va_P D vwCl [(x, .inr (8, [.ref sa, .ref tp, .ref ct, .ref dr, .ref rd, .ref im, .ref vw, .ref vu, .ref wh, .ref mk, .ref ak, .int lt, .int 0]))] H := hP
  have hD : va_D A [(x, .inr (8, [.ref sa, .ref tp, .ref ct, .ref dr, .ref rd, .ref im, .ref vw, .ref vu, .ref wh, .ref mk, .ref ak, .int lt, .int 0]))] := hD
  refine lv_iload_n S.1 S.2.1 dX8_fine_5 rfl (lv_at hl 1 rfl) ?_
  exact b_iret S.1 S.2.1 X.2.1 X.2.2.1 hP hD hS ⟨rfl, rfl⟩ dX8_fine_6
set_option maxHeartbeats 4000000 in
set_option maxRecDepth 100000 in
theorem s_X8_fault (l : Launch) (D : va_G) (cI cZ cC cS : ClassId) (sq : Nat → Nat) (sz : Nat) (x : Nat) (sa : Nat) (tp : Nat) (ct : Nat) (dr : Nat) (rd : Nat) (im : Nat) (vw : Nat) (vu : Nat) (wh : Nat) (mk : Nat) (ak : Nat) (lt : Int32) (fi : Int32) : mI l yX8_fault wsX8_fault 50 2000 D (tyW cI cZ cC cS) sq [(x, .inr (8, [.ref sa, .ref tp, .ref ct, .ref dr, .ref rd, .ref im, .ref vw, .ref vu, .ref wh, .ref mk, .ref ak, .int lt, .int fi]))] sz [.ref x] (fun r w => (r = lt ∧ w = [(x, .inr (8, [.ref sa, .ref tp, .ref ct, .ref dr, .ref rd, .ref im, .ref vw, .ref vu, .ref wh, .ref mk, .ref ak, .int lt, .int fi]))])) := by
  refine b_metI (cc := cX8_fault) (maxL := 1) (ret := (some .int)) (by decide) rfl (Nat.le_of_ble_eq_true rfl) ?_
  intro p e s m below meth c ls A H X hsz hP hK hT hD hA hS hl
  have S : CallFix p m c cX8_fault 1 s ([.ref x] : List Value).toArray wsX8_fault RX8 := X.1
  have hl : lv_has ls 1 [(0, .ref x)] := hl
  have iX8 := jX8_fault_X8
  refine lv_aload_n S.1 S.2.1 dX8_fault_0 rfl (lv_at hl 0 rfl) ?_
  refine b_get (v := .int lt) S iX8 hK hP 0 rfl rfl 11 (by decide) (by decide +kernel) rfl dX8_fault_1 ?_
  exact b_iret S.1 S.2.1 X.2.1 X.2.2.1 hP hD hS ⟨rfl, rfl⟩ dX8_fault_4
set_option maxHeartbeats 4000000 in
set_option maxRecDepth 100000 in
theorem s_X8_status (l : Launch) (D : va_G) (cI cZ cC cS : ClassId) (sq : Nat → Nat) (sz : Nat) (x : Nat) (sa : Nat) (tp : Nat) (ct : Nat) (dr : Nat) (rd : Nat) (im : Nat) (vw : Nat) (vu : Nat) (wh : Nat) (mk : Nat) (ak : Nat) (lt : Int32) (fi : Int32) : mI l yX8_status wsX8_status 50 2000 D (tyW cI cZ cC cS) sq [(x, .inr (8, [.ref sa, .ref tp, .ref ct, .ref dr, .ref rd, .ref im, .ref vw, .ref vu, .ref wh, .ref mk, .ref ak, .int lt, .int fi]))] sz [.ref x] (fun r w => (r = fi ∧ w = [(x, .inr (8, [.ref sa, .ref tp, .ref ct, .ref dr, .ref rd, .ref im, .ref vw, .ref vu, .ref wh, .ref mk, .ref ak, .int lt, .int fi]))])) := by
  refine b_metI (cc := cX8_status) (maxL := 1) (ret := (some .int)) (by decide) rfl (Nat.le_of_ble_eq_true rfl) ?_
  intro p e s m below meth c ls A H X hsz hP hK hT hD hA hS hl
  have S : CallFix p m c cX8_status 1 s ([.ref x] : List Value).toArray wsX8_status RX8 := X.1
  have hl : lv_has ls 1 [(0, .ref x)] := hl
  have iX8 := jX8_status_X8
  refine lv_aload_n S.1 S.2.1 dX8_status_0 rfl (lv_at hl 0 rfl) ?_
  refine b_get (v := .int fi) S iX8 hK hP 0 rfl rfl 12 (by decide) (by decide +kernel) rfl dX8_status_1 ?_
  exact b_iret S.1 S.2.1 X.2.1 X.2.2.1 hP hD hS ⟨rfl, rfl⟩ dX8_status_4
set_option maxHeartbeats 4000000 in
set_option maxRecDepth 100000 in
theorem s_X8_isPerson (l : Launch) (D : va_G) (cI cZ cC cS : ClassId) (sq : Nat → Nat) (sz : Nat) (x : Nat) (ct : Nat) (a : Int32) (sa : Nat) (tp : Nat) (dr : Nat) (rd : Nat) (im : Nat) (vw : Nat) (vu : Nat) (wh : Nat) (mk : Nat) (ak : Nat) (lt : Int32) (fi : Int32) (cw : Int32) (ch : Int32) (cp : Int32) (aCells : Nat) (aPrices : Nat) (aFree : Nat) (aPlaces : Nat) (aHomes : Nat) (aManners : Nat) (aGone : Nat) (aPaid : Nat) (aBlinks : Nat) : mI l yX8_isPerson wsX8_isPerson 1 40 D (tyW cI cZ cC cS) sq [(x, .inr (8, [.ref sa, .ref tp, .ref ct, .ref dr, .ref rd, .ref im, .ref vw, .ref vu, .ref wh, .ref mk, .ref ak, .int lt, .int fi])), (ct, .inr (1, [.int cw, .int ch, .int cp, .ref aCells, .ref aPrices, .ref aFree, .ref aPlaces, .ref aHomes, .ref aManners, .ref aGone, .ref aPaid, .ref aBlinks]))] sz [.ref x, .int a] (fun r w => ((0 ≤ a.toInt ∧ a.toInt < cp.toInt) ∧ r = 1 ∧ w = [(x, .inr (8, [.ref sa, .ref tp, .ref ct, .ref dr, .ref rd, .ref im, .ref vw, .ref vu, .ref wh, .ref mk, .ref ak, .int lt, .int fi])), (ct, .inr (1, [.int cw, .int ch, .int cp, .ref aCells, .ref aPrices, .ref aFree, .ref aPlaces, .ref aHomes, .ref aManners, .ref aGone, .ref aPaid, .ref aBlinks]))]) ∨ ((a.toInt < 0 ∨ cp.toInt ≤ a.toInt) ∧ r = 0 ∧ w = [(x, .inr (8, [.ref sa, .ref tp, .ref ct, .ref dr, .ref rd, .ref im, .ref vw, .ref vu, .ref wh, .ref mk, .ref ak, .int lt, .int fi])), (ct, .inr (1, [.int cw, .int ch, .int cp, .ref aCells, .ref aPrices, .ref aFree, .ref aPlaces, .ref aHomes, .ref aManners, .ref aGone, .ref aPaid, .ref aBlinks]))])) := by
  refine b_metI (cc := cX8_isPerson) (maxL := 2) (ret := (some .boolean)) (by decide) rfl (Nat.le_of_ble_eq_true rfl) ?_
  intro p e s m below meth c ls A H X hsz hP hK hT hD hA hS hl
  have S : CallFix p m c cX8_isPerson 2 s ([.ref x, .int a] : List Value).toArray wsX8_isPerson RX8 := X.1
  have hl : lv_has ls 2 [(0, .ref x), (1, .int a)] := hl
  have iX1 := jX8_isPerson_X1
  have iX8 := jX8_isPerson_X8
  refine lv_iload_n S.1 S.2.1 dX8_isPerson_0 rfl (lv_at hl 1 rfl) ?_
  refine lv_aload_n S.1 S.2.1 dX8_isPerson_1 rfl (lv_at hl 0 rfl) ?_
  refine b_get (v := .ref ct) S iX8 hK hP 0 rfl rfl 2 (by decide) (by decide +kernel) rfl dX8_isPerson_2 ?_
  refine b_get (v := .int cp) S iX1 hK hP 1 rfl rfl 2 (by decide) (by decide +kernel) rfl dX8_isPerson_5 ?_
  refine b_ai (wr := [(x, .inr (8, [.ref sa, .ref tp, .ref ct, .ref dr, .ref rd, .ref im, .ref vw, .ref vu, .ref wh, .ref mk, .ref ak, .int lt, .int fi])), (ct, .inr (1, [.int cw, .int ch, .int cp, .ref aCells, .ref aPrices, .ref aFree, .ref aPlaces, .ref aHomes, .ref aManners, .ref aGone, .ref aPaid, .ref aBlinks]))]) (b_runS (As := [.int a, .int cp]) (s_X8_within l D cI cZ cC cS sq H.size a cp) S gX8_isPerson_X8_within rfl hdS_X8_within ⟨Nat.le_of_ble_eq_true rfl, Nat.le_of_ble_eq_true rfl⟩ ⟨Nat.le_of_ble_eq_true rfl, Nat.le_of_ble_eq_true rfl⟩ hK hT hS hA hP hD [] rfl (by decide) rfl hl.1 rfl (Nat.le_of_ble_eq_true rfl) dX8_isPerson_8) hP hD hS hA [] [0, 1] rfl rfl (by decide) (by decide) (fun r_1 w_2 H locs hw_3 hP hD hS => ?_)
  rcases hw_3 with ⟨hf_4, rfl, rfl⟩ | ⟨hf_5, rfl, rfl⟩
  · have hP : va_P D vwCl [(x, .inr (8, [.ref sa, .ref tp, .ref ct, .ref dr, .ref rd, .ref im, .ref vw, .ref vu, .ref wh, .ref mk, .ref ak, .int lt, .int fi])), (ct, .inr (1, [.int cw, .int ch, .int cp, .ref aCells, .ref aPrices, .ref aFree, .ref aPlaces, .ref aHomes, .ref aManners, .ref aGone, .ref aPaid, .ref aBlinks]))] H := hP
    have hD : va_D A [(x, .inr (8, [.ref sa, .ref tp, .ref ct, .ref dr, .ref rd, .ref im, .ref vw, .ref vu, .ref wh, .ref mk, .ref ak, .int lt, .int fi])), (ct, .inr (1, [.int cw, .int ch, .int cp, .ref aCells, .ref aPrices, .ref aFree, .ref aPlaces, .ref aHomes, .ref aManners, .ref aGone, .ref aPaid, .ref aBlinks]))] := hD
    exact b_zret S.1 S.2.1 X.2.1 X.2.2.1 rfl hP hD hS (Or.inl ⟨(by first | with_reducible assumption | decide | (and_intros <;> first | with_reducible assumption | (intros; refine Int.le_antisymm ?_ ?_ <;> omega) | omega) | assumption | (rw [show Int32.toInt 0 = 0 from rfl]; omega)), rfl, rfl⟩) dX8_isPerson_11
  · have hP : va_P D vwCl [(x, .inr (8, [.ref sa, .ref tp, .ref ct, .ref dr, .ref rd, .ref im, .ref vw, .ref vu, .ref wh, .ref mk, .ref ak, .int lt, .int fi])), (ct, .inr (1, [.int cw, .int ch, .int cp, .ref aCells, .ref aPrices, .ref aFree, .ref aPlaces, .ref aHomes, .ref aManners, .ref aGone, .ref aPaid, .ref aBlinks]))] H := hP
    have hD : va_D A [(x, .inr (8, [.ref sa, .ref tp, .ref ct, .ref dr, .ref rd, .ref im, .ref vw, .ref vu, .ref wh, .ref mk, .ref ak, .int lt, .int fi])), (ct, .inr (1, [.int cw, .int ch, .int cp, .ref aCells, .ref aPrices, .ref aFree, .ref aPlaces, .ref aHomes, .ref aManners, .ref aGone, .ref aPaid, .ref aBlinks]))] := hD
    exact b_zret S.1 S.2.1 X.2.1 X.2.2.1 rfl hP hD hS (Or.inr (⟨(by first | with_reducible assumption | decide | (and_intros <;> first | with_reducible assumption | (intros; refine Int.le_antisymm ?_ ?_ <;> omega) | omega) | assumption | (rw [show Int32.toInt 0 = 0 from rfl]; omega)), rfl, rfl⟩)) dX8_isPerson_11
set_option maxHeartbeats 4000000 in
set_option maxRecDepth 100000 in
theorem s_X8_noCity (l : Launch) (D : va_G) (cI cZ cC cS : ClassId) (sq : Nat → Nat) (sz : Nat) (x : Nat) (ct : Nat) (sa : Nat) (tp : Nat) (dr : Nat) (rd : Nat) (im : Nat) (vw : Nat) (vu : Nat) (wh : Nat) (mk : Nat) (ak : Nat) (lt : Int32) (fi : Int32) (cw : Int32) (ch : Int32) (cp : Int32) (aCells : Nat) (aPrices : Nat) (aFree : Nat) (aPlaces : Nat) (aHomes : Nat) (aManners : Nat) (aGone : Nat) (aPaid : Nat) (aBlinks : Nat) : mI l yX8_noCity wsX8_noCity 1 40 D (tyW cI cZ cC cS) sq [(x, .inr (8, [.ref sa, .ref tp, .ref ct, .ref dr, .ref rd, .ref im, .ref vw, .ref vu, .ref wh, .ref mk, .ref ak, .int lt, .int fi])), (ct, .inr (1, [.int cw, .int ch, .int cp, .ref aCells, .ref aPrices, .ref aFree, .ref aPlaces, .ref aHomes, .ref aManners, .ref aGone, .ref aPaid, .ref aBlinks]))] sz [.ref x] (fun r w => ((cw.toInt = 0) ∧ r = 1 ∧ w = [(x, .inr (8, [.ref sa, .ref tp, .ref ct, .ref dr, .ref rd, .ref im, .ref vw, .ref vu, .ref wh, .ref mk, .ref ak, .int lt, .int fi])), (ct, .inr (1, [.int cw, .int ch, .int cp, .ref aCells, .ref aPrices, .ref aFree, .ref aPlaces, .ref aHomes, .ref aManners, .ref aGone, .ref aPaid, .ref aBlinks]))]) ∨ ((¬ cw.toInt = 0) ∧ r = 0 ∧ w = [(x, .inr (8, [.ref sa, .ref tp, .ref ct, .ref dr, .ref rd, .ref im, .ref vw, .ref vu, .ref wh, .ref mk, .ref ak, .int lt, .int fi])), (ct, .inr (1, [.int cw, .int ch, .int cp, .ref aCells, .ref aPrices, .ref aFree, .ref aPlaces, .ref aHomes, .ref aManners, .ref aGone, .ref aPaid, .ref aBlinks]))])) := by
  refine b_metI (cc := cX8_noCity) (maxL := 1) (ret := (some .boolean)) (by decide) rfl (Nat.le_of_ble_eq_true rfl) ?_
  intro p e s m below meth c ls A H X hsz hP hK hT hD hA hS hl
  have S : CallFix p m c cX8_noCity 1 s ([.ref x] : List Value).toArray wsX8_noCity RX8 := X.1
  have hl : lv_has ls 1 [(0, .ref x)] := hl
  have iX8 := jX8_noCity_X8
  refine lv_aload_n S.1 S.2.1 dX8_noCity_0 rfl (lv_at hl 0 rfl) ?_
  refine b_get (v := .ref ct) S iX8 hK hP 0 rfl rfl 2 (by decide) (by decide +kernel) rfl dX8_noCity_1 ?_
  refine b_ai (wr := [(x, .inr (8, [.ref sa, .ref tp, .ref ct, .ref dr, .ref rd, .ref im, .ref vw, .ref vu, .ref wh, .ref mk, .ref ak, .int lt, .int fi]))]) (b_runV (q0 := 1) (ci := 1) (As := []) (s_X1_isNone l D cI cZ cC cS sq H.size ct cw ch cp aCells aPrices aFree aPlaces aHomes aManners aGone aPaid aBlinks) S gX8_noCity_X1_isNone rfl hdV_X1_isNone ⟨Nat.le_of_ble_eq_true rfl, Nat.le_of_ble_eq_true rfl⟩ ⟨Nat.le_of_ble_eq_true rfl, Nat.le_of_ble_eq_true rfl⟩ hK hT hS hA hP hD rfl rfl [1] rfl (by decide) rfl hl.1 rfl (Nat.le_of_ble_eq_true rfl) dX8_noCity_4) hP hD hS hA [1] [0] rfl rfl (by decide) (by decide) (fun r_1 w_2 H locs hw_3 hP hD hS => ?_)
  rcases hw_3 with ⟨hf_4, rfl, rfl⟩ | ⟨hf_5, rfl, rfl⟩
  · have hP : va_P D vwCl [(x, .inr (8, [.ref sa, .ref tp, .ref ct, .ref dr, .ref rd, .ref im, .ref vw, .ref vu, .ref wh, .ref mk, .ref ak, .int lt, .int fi])), (ct, .inr (1, [.int cw, .int ch, .int cp, .ref aCells, .ref aPrices, .ref aFree, .ref aPlaces, .ref aHomes, .ref aManners, .ref aGone, .ref aPaid, .ref aBlinks]))] H := hP
    have hD : va_D A [(x, .inr (8, [.ref sa, .ref tp, .ref ct, .ref dr, .ref rd, .ref im, .ref vw, .ref vu, .ref wh, .ref mk, .ref ak, .int lt, .int fi])), (ct, .inr (1, [.int cw, .int ch, .int cp, .ref aCells, .ref aPrices, .ref aFree, .ref aPlaces, .ref aHomes, .ref aManners, .ref aGone, .ref aPaid, .ref aBlinks]))] := hD
    exact b_zret S.1 S.2.1 X.2.1 X.2.2.1 rfl hP hD hS (Or.inl ⟨(by first | with_reducible assumption | decide | (and_intros <;> first | with_reducible assumption | (intros; refine Int.le_antisymm ?_ ?_ <;> omega) | omega) | assumption | (rw [show Int32.toInt 0 = 0 from rfl]; omega)), rfl, rfl⟩) dX8_noCity_7
  · have hP : va_P D vwCl [(x, .inr (8, [.ref sa, .ref tp, .ref ct, .ref dr, .ref rd, .ref im, .ref vw, .ref vu, .ref wh, .ref mk, .ref ak, .int lt, .int fi])), (ct, .inr (1, [.int cw, .int ch, .int cp, .ref aCells, .ref aPrices, .ref aFree, .ref aPlaces, .ref aHomes, .ref aManners, .ref aGone, .ref aPaid, .ref aBlinks]))] H := hP
    have hD : va_D A [(x, .inr (8, [.ref sa, .ref tp, .ref ct, .ref dr, .ref rd, .ref im, .ref vw, .ref vu, .ref wh, .ref mk, .ref ak, .int lt, .int fi])), (ct, .inr (1, [.int cw, .int ch, .int cp, .ref aCells, .ref aPrices, .ref aFree, .ref aPlaces, .ref aHomes, .ref aManners, .ref aGone, .ref aPaid, .ref aBlinks]))] := hD
    exact b_zret S.1 S.2.1 X.2.1 X.2.2.1 rfl hP hD hS (Or.inr (⟨(by first | with_reducible assumption | decide | (and_intros <;> first | with_reducible assumption | (intros; refine Int.le_antisymm ?_ ?_ <;> omega) | omega) | assumption | (rw [show Int32.toInt 0 = 0 from rfl]; omega)), rfl, rfl⟩)) dX8_noCity_7
set_option maxHeartbeats 4000000 in
set_option maxRecDepth 100000 in
theorem s_X8_mostBlind (l : Launch) (D : va_G) (cI cZ cC cS : ClassId) (sq : Nat → Nat) (sz : Nat) (x : Nat) (ct : Nat) (aManners : Nat) (a : Int32) (sa : Nat) (tp : Nat) (dr : Nat) (rd : Nat) (im : Nat) (vw : Nat) (vu : Nat) (wh : Nat) (mk : Nat) (ak : Nat) (lt : Int32) (fi : Int32) (cw : Int32) (ch : Int32) (cp : Int32) (aCells : Nat) (aPrices : Nat) (aFree : Nat) (aPlaces : Nat) (aHomes : Nat) (aGone : Nat) (aPaid : Nat) (aBlinks : Nat) (fm : Nat → Int32) (ha : 0 ≤ a.toInt ∧ a.toInt < 6) : mI l yX8_mostBlind wsX8_mostBlind 0 0 D (tyW cI cZ cC cS) sq [(x, .inr (8, [.ref sa, .ref tp, .ref ct, .ref dr, .ref rd, .ref im, .ref vw, .ref vu, .ref wh, .ref mk, .ref ak, .int lt, .int fi])), (ct, .inr (1, [.int cw, .int ch, .int cp, .ref aCells, .ref aPrices, .ref aFree, .ref aPlaces, .ref aHomes, .ref aManners, .ref aGone, .ref aPaid, .ref aBlinks])), (aManners, .inl (cI, 6, .inl fm))] sz [.ref x, .int a] (fun r w => (r = 5 ∧ w = [(x, .inr (8, [.ref sa, .ref tp, .ref ct, .ref dr, .ref rd, .ref im, .ref vw, .ref vu, .ref wh, .ref mk, .ref ak, .int lt, .int fi])), (ct, .inr (1, [.int cw, .int ch, .int cp, .ref aCells, .ref aPrices, .ref aFree, .ref aPlaces, .ref aHomes, .ref aManners, .ref aGone, .ref aPaid, .ref aBlinks])), (aManners, .inl (cI, 6, .inl fm))]) ∨ (r = 0 ∧ w = [(x, .inr (8, [.ref sa, .ref tp, .ref ct, .ref dr, .ref rd, .ref im, .ref vw, .ref vu, .ref wh, .ref mk, .ref ak, .int lt, .int fi])), (ct, .inr (1, [.int cw, .int ch, .int cp, .ref aCells, .ref aPrices, .ref aFree, .ref aPlaces, .ref aHomes, .ref aManners, .ref aGone, .ref aPaid, .ref aBlinks])), (aManners, .inl (cI, 6, .inl fm))])) := by
  refine b_metI (cc := cX8_mostBlind) (maxL := 2) (ret := (some .int)) (by decide) rfl (Nat.le_of_ble_eq_true rfl) ?_
  intro p e s m below meth c ls A H X hsz hP hK hT hD hA hS hl
  have S : CallFix p m c cX8_mostBlind 2 s ([.ref x, .int a] : List Value).toArray wsX8_mostBlind RX8 := X.1
  have hl : lv_has ls 2 [(0, .ref x), (1, .int a)] := hl
  have iX1 := jX8_mostBlind_X1
  have iX8 := jX8_mostBlind_X8
  refine lv_aload_n S.1 S.2.1 dX8_mostBlind_0 rfl (lv_at hl 0 rfl) ?_
  refine b_get (v := .ref ct) S iX8 hK hP 0 rfl rfl 2 (by decide) (by decide +kernel) rfl dX8_mostBlind_1 ?_
  refine b_get (v := .ref aManners) S iX1 hK hP 1 rfl rfl 8 (by decide) (by decide +kernel) rfl dX8_mostBlind_4 ?_
  refine lv_iload_n S.1 S.2.1 dX8_mostBlind_7 rfl (lv_at hl 1 rfl) ?_
  have hin_1 : vp_in a 6 := (in_of (n := 6) (by  omega) (by  omega))
  refine va_iald S.1 S.2.1 hK.1 hP 2 0 rfl rfl hin_1 dX8_mostBlind_8 ?_
  refine lv_topi (fun x_2 ex_2 => ?_)
  refine lv_iconst (v := (2)) S.1 S.2.1 dX8_mostBlind_9 (by decide) ?_
  refine lv_icmp_ne (tgt := 17) S.1 S.2.1 dX8_mostBlind_10 (by decide) (fun c_3 => ?_) (fun c_3 => ?_)
  · rw [eq2 (a := x_2) (b := 2) (A := x_2.toInt) (B := 2) rfl rfl] at c_3
    refine lv_iconst (v := (0)) S.1 S.2.1 dX8_mostBlind_17 (by decide) ?_
    exact b_iret S.1 S.2.1 X.2.1 X.2.2.1 hP hD hS (Or.inr (⟨rfl, rfl⟩)) dX8_mostBlind_18
  · rw [eq2 (a := x_2) (b := 2) (A := x_2.toInt) (B := 2) rfl rfl] at c_3
    refine lv_iconst (v := (5)) S.1 S.2.1 dX8_mostBlind_13 (by decide) ?_
    refine lv_goto (tgt := 18) S.1 S.2.1 dX8_mostBlind_14 (by decide) ?_
    exact b_iret S.1 S.2.1 X.2.1 X.2.2.1 hP hD hS (Or.inl ⟨rfl, rfl⟩) dX8_mostBlind_18
set_option maxHeartbeats 4000000 in
set_option maxRecDepth 100000 in
theorem s_X8_canStep (l : Launch) (D : va_G) (cI cZ cC cS : ClassId) (sq : Nat → Nat) (sz : Nat) (x : Nat) (ct : Nat) (aManners : Nat) (a : Int32) (co : Int32) (sa : Nat) (tp : Nat) (dr : Nat) (rd : Nat) (im : Nat) (vw : Nat) (vu : Nat) (wh : Nat) (mk : Nat) (ak : Nat) (lt : Int32) (fi : Int32) (cw : Int32) (ch : Int32) (cp : Int32) (aCells : Nat) (aPrices : Nat) (aFree : Nat) (aPlaces : Nat) (aHomes : Nat) (aGone : Nat) (aPaid : Nat) (aBlinks : Nat) (fm : Nat → Int32) (ha : 0 ≤ a.toInt ∧ a.toInt < 6) : mI l yX8_canStep wsX8_canStep 1 40 D (tyW cI cZ cC cS) sq [(x, .inr (8, [.ref sa, .ref tp, .ref ct, .ref dr, .ref rd, .ref im, .ref vw, .ref vu, .ref wh, .ref mk, .ref ak, .int lt, .int fi])), (ct, .inr (1, [.int cw, .int ch, .int cp, .ref aCells, .ref aPrices, .ref aFree, .ref aPlaces, .ref aHomes, .ref aManners, .ref aGone, .ref aPaid, .ref aBlinks])), (aManners, .inl (cI, 6, .inl fm))] sz [.ref x, .int a, .int co] (fun r w => ((0 ≤ co.toInt ∧ co.toInt < 16) ∧ (((fm a.toNatClampNeg).toInt = 2 ∧ 0 ≤ co.toInt ∧ co.toInt < 16) ∨ (¬ (fm a.toNatClampNeg).toInt = 2 ∧ 0 ≤ co.toInt ∧ co.toInt < 8)) ∧ r = 1 ∧ w = [(x, .inr (8, [.ref sa, .ref tp, .ref ct, .ref dr, .ref rd, .ref im, .ref vw, .ref vu, .ref wh, .ref mk, .ref ak, .int lt, .int fi])), (ct, .inr (1, [.int cw, .int ch, .int cp, .ref aCells, .ref aPrices, .ref aFree, .ref aPlaces, .ref aHomes, .ref aManners, .ref aGone, .ref aPaid, .ref aBlinks])), (aManners, .inl (cI, 6, .inl fm))]) ∨ ((¬ (((fm a.toNatClampNeg).toInt = 2 ∧ 0 ≤ co.toInt ∧ co.toInt < 16) ∨ (¬ (fm a.toNatClampNeg).toInt = 2 ∧ 0 ≤ co.toInt ∧ co.toInt < 8))) ∧ r = 0 ∧ w = [(x, .inr (8, [.ref sa, .ref tp, .ref ct, .ref dr, .ref rd, .ref im, .ref vw, .ref vu, .ref wh, .ref mk, .ref ak, .int lt, .int fi])), (ct, .inr (1, [.int cw, .int ch, .int cp, .ref aCells, .ref aPrices, .ref aFree, .ref aPlaces, .ref aHomes, .ref aManners, .ref aGone, .ref aPaid, .ref aBlinks])), (aManners, .inl (cI, 6, .inl fm))])) := by
  refine b_metI (cc := cX8_canStep) (maxL := 3) (ret := (some .boolean)) (by decide) rfl (Nat.le_of_ble_eq_true rfl) ?_
  intro p e s m below meth c ls A H X hsz hP hK hT hD hA hS hl
  have S : CallFix p m c cX8_canStep 3 s ([.ref x, .int a, .int co] : List Value).toArray wsX8_canStep RX8 := X.1
  have hl : lv_has ls 3 [(0, .ref x), (1, .int a), (2, .int co)] := hl
  have iX1 := jX8_canStep_X1
  have iX8 := jX8_canStep_X8
  refine lv_iload_n S.1 S.2.1 dX8_canStep_0 rfl (lv_at hl 2 rfl) ?_
  refine lv_aload_n S.1 S.2.1 dX8_canStep_1 rfl (lv_at hl 0 rfl) ?_
  refine b_get (v := .ref ct) S iX8 hK hP 0 rfl rfl 2 (by decide) (by decide +kernel) rfl dX8_canStep_2 ?_
  refine b_get (v := .ref aManners) S iX1 hK hP 1 rfl rfl 8 (by decide) (by decide +kernel) rfl dX8_canStep_5 ?_
  refine lv_iload_n S.1 S.2.1 dX8_canStep_8 rfl (lv_at hl 1 rfl) ?_
  have hin_1 : vp_in a 6 := (in_of (n := 6) (by  omega) (by  omega))
  refine va_iald S.1 S.2.1 hK.1 hP 2 0 rfl rfl hin_1 dX8_canStep_9 ?_
  refine lv_topi (fun x_2 ex_2 => ?_)
  have bx_2 : x_2.toInt = (fm a.toNatClampNeg).toInt := by rw [ex_2]
  refine lv_iconst (v := (2)) S.1 S.2.1 dX8_canStep_10 (by decide) ?_
  refine lv_icmp_ne (tgt := 19) S.1 S.2.1 dX8_canStep_11 (by decide) (fun c_3 => ?_) (fun c_3 => ?_)
  · rw [eq2 (a := x_2) (b := 2) (A := x_2.toInt) (B := 2) rfl rfl] at c_3
    refine lv_bipush (v := (8)) S.1 S.2.1 dX8_canStep_19 (by decide) ?_
    refine b_ai (wr := [(x, .inr (8, [.ref sa, .ref tp, .ref ct, .ref dr, .ref rd, .ref im, .ref vw, .ref vu, .ref wh, .ref mk, .ref ak, .int lt, .int fi])), (ct, .inr (1, [.int cw, .int ch, .int cp, .ref aCells, .ref aPrices, .ref aFree, .ref aPlaces, .ref aHomes, .ref aManners, .ref aGone, .ref aPaid, .ref aBlinks])), (aManners, .inl (cI, 6, .inl fm))]) (b_runS (As := [.int co, .int 8]) (s_X8_within l D cI cZ cC cS sq H.size co (8)) S gX8_canStep_X8_within rfl hdS_X8_within ⟨Nat.le_of_ble_eq_true rfl, Nat.le_of_ble_eq_true rfl⟩ ⟨Nat.le_of_ble_eq_true rfl, Nat.le_of_ble_eq_true rfl⟩ hK hT hS hA hP hD [] rfl (by decide) rfl hl.1 rfl (Nat.le_of_ble_eq_true rfl) dX8_canStep_21) hP hD hS hA [] [0, 1, 2] rfl rfl (by decide) (by decide) (fun r_4 w_5 H locs hw_6 hP hD hS => ?_)
    rcases hw_6 with ⟨hf_7, rfl, rfl⟩ | ⟨hf_8, rfl, rfl⟩
    · have hf_7 : 0 ≤ co.toInt ∧ co.toInt < ((8) : Int) := hf_7
      have hP : va_P D vwCl [(x, .inr (8, [.ref sa, .ref tp, .ref ct, .ref dr, .ref rd, .ref im, .ref vw, .ref vu, .ref wh, .ref mk, .ref ak, .int lt, .int fi])), (ct, .inr (1, [.int cw, .int ch, .int cp, .ref aCells, .ref aPrices, .ref aFree, .ref aPlaces, .ref aHomes, .ref aManners, .ref aGone, .ref aPaid, .ref aBlinks])), (aManners, .inl (cI, 6, .inl fm))] H := hP
      have hD : va_D A [(x, .inr (8, [.ref sa, .ref tp, .ref ct, .ref dr, .ref rd, .ref im, .ref vw, .ref vu, .ref wh, .ref mk, .ref ak, .int lt, .int fi])), (ct, .inr (1, [.int cw, .int ch, .int cp, .ref aCells, .ref aPrices, .ref aFree, .ref aPlaces, .ref aHomes, .ref aManners, .ref aGone, .ref aPaid, .ref aBlinks])), (aManners, .inl (cI, 6, .inl fm))] := hD
      exact b_zret S.1 S.2.1 X.2.1 X.2.2.1 rfl hP hD hS (Or.inl ⟨(by first | with_reducible assumption | decide | (and_intros <;> first | with_reducible assumption | (intros; refine Int.le_antisymm ?_ ?_ <;> omega) | omega) | assumption | (rw [show Int32.toInt 0 = 0 from rfl]; omega)), (by first | with_reducible assumption | decide | (and_intros <;> first | with_reducible assumption | (intros; refine Int.le_antisymm ?_ ?_ <;> omega) | omega) | assumption | (rw [show Int32.toInt 0 = 0 from rfl]; omega)), rfl, rfl⟩) dX8_canStep_24
    · have hf_8 : co.toInt < 0 ∨ ((8) : Int) ≤ co.toInt := hf_8
      have hP : va_P D vwCl [(x, .inr (8, [.ref sa, .ref tp, .ref ct, .ref dr, .ref rd, .ref im, .ref vw, .ref vu, .ref wh, .ref mk, .ref ak, .int lt, .int fi])), (ct, .inr (1, [.int cw, .int ch, .int cp, .ref aCells, .ref aPrices, .ref aFree, .ref aPlaces, .ref aHomes, .ref aManners, .ref aGone, .ref aPaid, .ref aBlinks])), (aManners, .inl (cI, 6, .inl fm))] H := hP
      have hD : va_D A [(x, .inr (8, [.ref sa, .ref tp, .ref ct, .ref dr, .ref rd, .ref im, .ref vw, .ref vu, .ref wh, .ref mk, .ref ak, .int lt, .int fi])), (ct, .inr (1, [.int cw, .int ch, .int cp, .ref aCells, .ref aPrices, .ref aFree, .ref aPlaces, .ref aHomes, .ref aManners, .ref aGone, .ref aPaid, .ref aBlinks])), (aManners, .inl (cI, 6, .inl fm))] := hD
      exact b_zret S.1 S.2.1 X.2.1 X.2.2.1 rfl hP hD hS (Or.inr (⟨(by first | with_reducible assumption | decide | (and_intros <;> first | with_reducible assumption | (intros; refine Int.le_antisymm ?_ ?_ <;> omega) | omega) | assumption | (rw [show Int32.toInt 0 = 0 from rfl]; omega)), rfl, rfl⟩)) dX8_canStep_24
  · rw [eq2 (a := x_2) (b := 2) (A := x_2.toInt) (B := 2) rfl rfl] at c_3
    refine lv_bipush (v := (16)) S.1 S.2.1 dX8_canStep_14 (by decide) ?_
    refine lv_goto (tgt := 21) S.1 S.2.1 dX8_canStep_16 (by decide) ?_
    refine b_ai (wr := [(x, .inr (8, [.ref sa, .ref tp, .ref ct, .ref dr, .ref rd, .ref im, .ref vw, .ref vu, .ref wh, .ref mk, .ref ak, .int lt, .int fi])), (ct, .inr (1, [.int cw, .int ch, .int cp, .ref aCells, .ref aPrices, .ref aFree, .ref aPlaces, .ref aHomes, .ref aManners, .ref aGone, .ref aPaid, .ref aBlinks])), (aManners, .inl (cI, 6, .inl fm))]) (b_runS (As := [.int co, .int 16]) (s_X8_within l D cI cZ cC cS sq H.size co (16)) S gX8_canStep_X8_within rfl hdS_X8_within ⟨Nat.le_of_ble_eq_true rfl, Nat.le_of_ble_eq_true rfl⟩ ⟨Nat.le_of_ble_eq_true rfl, Nat.le_of_ble_eq_true rfl⟩ hK hT hS hA hP hD [] rfl (by decide) rfl hl.1 rfl (Nat.le_of_ble_eq_true rfl) dX8_canStep_21) hP hD hS hA [] [0, 1, 2] rfl rfl (by decide) (by decide) (fun r_9 w_10 H locs hw_11 hP hD hS => ?_)
    rcases hw_11 with ⟨hf_12, rfl, rfl⟩ | ⟨hf_13, rfl, rfl⟩
    · have hf_12 : 0 ≤ co.toInt ∧ co.toInt < ((16) : Int) := hf_12
      have hP : va_P D vwCl [(x, .inr (8, [.ref sa, .ref tp, .ref ct, .ref dr, .ref rd, .ref im, .ref vw, .ref vu, .ref wh, .ref mk, .ref ak, .int lt, .int fi])), (ct, .inr (1, [.int cw, .int ch, .int cp, .ref aCells, .ref aPrices, .ref aFree, .ref aPlaces, .ref aHomes, .ref aManners, .ref aGone, .ref aPaid, .ref aBlinks])), (aManners, .inl (cI, 6, .inl fm))] H := hP
      have hD : va_D A [(x, .inr (8, [.ref sa, .ref tp, .ref ct, .ref dr, .ref rd, .ref im, .ref vw, .ref vu, .ref wh, .ref mk, .ref ak, .int lt, .int fi])), (ct, .inr (1, [.int cw, .int ch, .int cp, .ref aCells, .ref aPrices, .ref aFree, .ref aPlaces, .ref aHomes, .ref aManners, .ref aGone, .ref aPaid, .ref aBlinks])), (aManners, .inl (cI, 6, .inl fm))] := hD
      exact b_zret S.1 S.2.1 X.2.1 X.2.2.1 rfl hP hD hS (Or.inl ⟨(by first | with_reducible assumption | decide | (and_intros <;> first | with_reducible assumption | (intros; refine Int.le_antisymm ?_ ?_ <;> omega) | omega) | assumption | (rw [show Int32.toInt 0 = 0 from rfl]; omega)), (by first | with_reducible assumption | decide | (and_intros <;> first | with_reducible assumption | (intros; refine Int.le_antisymm ?_ ?_ <;> omega) | omega) | assumption | (rw [show Int32.toInt 0 = 0 from rfl]; omega)), rfl, rfl⟩) dX8_canStep_24
    · have hf_13 : co.toInt < 0 ∨ ((16) : Int) ≤ co.toInt := hf_13
      have hP : va_P D vwCl [(x, .inr (8, [.ref sa, .ref tp, .ref ct, .ref dr, .ref rd, .ref im, .ref vw, .ref vu, .ref wh, .ref mk, .ref ak, .int lt, .int fi])), (ct, .inr (1, [.int cw, .int ch, .int cp, .ref aCells, .ref aPrices, .ref aFree, .ref aPlaces, .ref aHomes, .ref aManners, .ref aGone, .ref aPaid, .ref aBlinks])), (aManners, .inl (cI, 6, .inl fm))] H := hP
      have hD : va_D A [(x, .inr (8, [.ref sa, .ref tp, .ref ct, .ref dr, .ref rd, .ref im, .ref vw, .ref vu, .ref wh, .ref mk, .ref ak, .int lt, .int fi])), (ct, .inr (1, [.int cw, .int ch, .int cp, .ref aCells, .ref aPrices, .ref aFree, .ref aPlaces, .ref aHomes, .ref aManners, .ref aGone, .ref aPaid, .ref aBlinks])), (aManners, .inl (cI, 6, .inl fm))] := hD
      exact b_zret S.1 S.2.1 X.2.1 X.2.2.1 rfl hP hD hS (Or.inr (⟨(by first | with_reducible assumption | decide | (and_intros <;> first | with_reducible assumption | (intros; refine Int.le_antisymm ?_ ?_ <;> omega) | omega) | assumption | (rw [show Int32.toInt 0 = 0 from rfl]; omega)), rfl, rfl⟩)) dX8_canStep_24
theorem py_1 {fm ff fp vm : Nat → Int32} {a v o x y t : Int32} {O : Int} (ho : o.toInt = O) (h : ¬ ((fm a.toNatClampNeg).toInt = 1 ∧ ¬ (ff o.toNatClampNeg).toInt = 0)) (e : x = y * t) (ey : y = fp o.toNatClampNeg) (ht : t.toInt = 1 + (vm v.toNatClampNeg).toInt) (hp : rng fp 6 0 99) (h0 : 0 ≤ O ∧ O ≤ 5) (hb : 1 ≤ t.toInt ∧ t.toInt ≤ 3) : (¬ ((fm a.toNatClampNeg).toInt = 1 ∧ ¬ (ff O.toNat).toInt = 0) ∧ x.toInt = (fp O.toNat).toInt * (1 + (vm v.toNatClampNeg).toInt)) ∨ (((fm a.toNatClampNeg).toInt = 1 ∧ ¬ (ff O.toNat).toInt = 0) ∧ x.toInt = 0) := by
  have h3 : o.toNatClampNeg = O.toNat := by show o.toInt.toNat = _; rw [ho]
  rw [h3] at h ey
  refine Or.inl ⟨h, ?_⟩
  have b := hp O.toNat (by first | (and_intros <;> first | with_reducible assumption | (refine Int.le_antisymm ?_ ?_ <;> omega) | omega) | omega)
  rw [← ey] at b
  rw [← ht, ← ey]
  exact mulP e b hb
theorem py_0 {fm ff fp vm : Nat → Int32} {a v o x : Int32} {O : Int} (ho : o.toInt = O) (h : (fm a.toNatClampNeg).toInt = 1 ∧ ¬ (ff o.toNatClampNeg).toInt = 0) (hx : x.toInt = 0) : (¬ ((fm a.toNatClampNeg).toInt = 1 ∧ ¬ (ff O.toNat).toInt = 0) ∧ x.toInt = (fp O.toNat).toInt * (1 + (vm v.toNatClampNeg).toInt)) ∨ (((fm a.toNatClampNeg).toInt = 1 ∧ ¬ (ff O.toNat).toInt = 0) ∧ x.toInt = 0) := by
  have h3 : o.toNatClampNeg = O.toNat := by show o.toInt.toNat = _; rw [ho]
  rw [h3] at h
  exact Or.inr ⟨h, hx⟩
set_option maxHeartbeats 4000000 in
set_option maxRecDepth 100000 in
theorem s_X8_lookAndPay (l : Launch) (D : va_G) (cI cZ cC cS : ClassId) (sq : Nat → Nat) (sz : Nat) (x : Nat) (ct : Nat) (aPrices : Nat) (aManners : Nat) (aFree : Nat) (aPaid : Nat) (aBlinks : Nat) (vw : Nat) (vM : Nat) (vF : Nat) (a : Int32) (v : Int32) (sa : Nat) (tp : Nat) (dr : Nat) (rd : Nat) (im : Nat) (vu : Nat) (wh : Nat) (mk : Nat) (ak : Nat) (lt : Int32) (fi : Int32) (cw : Int32) (ch : Int32) (cp : Int32) (aCells : Nat) (aPlaces : Nat) (aHomes : Nat) (aGone : Nat) (fp : Nat → Int32) (fm : Nat → Int32) (ff : Nat → Int32) (fd : Nat → Int32) (fb : Nat → Int32) (vN : Nat) (vS : Nat) (vm : Nat → Int32) (vf : Nat → Int32) (hrg_vm : rng vm 640 (0) (2)) (hrg_vf : rng vf 640 (0) (6)) (ha : 0 ≤ a.toInt ∧ a.toInt < 6) (hv : 0 ≤ v.toInt ∧ v.toInt < 640) (hpr : rng fp 6 (0) (99)) : mI l yX8_lookAndPay wsX8_lookAndPay 2 80 D (tyW cI cZ cC cS) sq [(x, .inr (8, [.ref sa, .ref tp, .ref ct, .ref dr, .ref rd, .ref im, .ref vw, .ref vu, .ref wh, .ref mk, .ref ak, .int lt, .int fi])), (ct, .inr (1, [.int cw, .int ch, .int cp, .ref aCells, .ref aPrices, .ref aFree, .ref aPlaces, .ref aHomes, .ref aManners, .ref aGone, .ref aPaid, .ref aBlinks])), (aPrices, .inl (cI, 6, .inl fp)), (aManners, .inl (cI, 6, .inl fm)), (aFree, .inl (cI, 6, .inl ff)), (aPaid, .inl (cI, 36, .inl fd)), (aBlinks, .inl (cI, 36, .inl fb)), (vw, .inr (6, [.ref vN, .ref vS, .ref vM, .ref vF])), (vM, .inl (cI, 640, .inl vm)), (vF, .inl (cI, 640, .inl vf))] sz [.ref x, .int a, .int v] (fun r w => (((vf v.toNatClampNeg).toInt = 6) ∧ r = 0 ∧ w = [(x, .inr (8, [.ref sa, .ref tp, .ref ct, .ref dr, .ref rd, .ref im, .ref vw, .ref vu, .ref wh, .ref mk, .ref ak, .int lt, .int fi])), (ct, .inr (1, [.int cw, .int ch, .int cp, .ref aCells, .ref aPrices, .ref aFree, .ref aPlaces, .ref aHomes, .ref aManners, .ref aGone, .ref aPaid, .ref aBlinks])), (aPrices, .inl (cI, 6, .inl fp)), (aManners, .inl (cI, 6, .inl fm)), (aFree, .inl (cI, 6, .inl ff)), (aPaid, .inl (cI, 36, .inl fd)), (aBlinks, .inl (cI, 36, .inl fb)), (vw, .inr (6, [.ref vN, .ref vS, .ref vM, .ref vF])), (vM, .inl (cI, 640, .inl vm)), (vF, .inl (cI, 640, .inl vf))]) ∨ (∃ (fd2 : Nat → Int32), ∃ (fb2 : Nat → Int32), (0 ≤ (vf v.toNatClampNeg).toInt ∧ (vf v.toNatClampNeg).toInt ≤ 5) ∧ ((¬ ((fm a.toNatClampNeg).toInt = 1 ∧ ¬ (ff ((vf v.toNatClampNeg).toInt).toNat).toInt = 0) ∧ r.toInt = (fp ((vf v.toNatClampNeg).toInt).toNat).toInt * (1 + (vm v.toNatClampNeg).toInt)) ∨ (((fm a.toNatClampNeg).toInt = 1 ∧ ¬ (ff ((vf v.toNatClampNeg).toInt).toNat).toInt = 0) ∧ r.toInt = 0)) ∧ (∃ i : Int32, i.toInt = 6 * a.toInt + (vf v.toNatClampNeg).toInt ∧ fd2 = upd fd i.toNatClampNeg (fd i.toNatClampNeg + r)) ∧ (∃ i : Int32, i.toInt = 6 * a.toInt + (vf v.toNatClampNeg).toInt ∧ fb2 = upd fb i.toNatClampNeg (fb i.toNatClampNeg + 1)) ∧ w = [(x, .inr (8, [.ref sa, .ref tp, .ref ct, .ref dr, .ref rd, .ref im, .ref vw, .ref vu, .ref wh, .ref mk, .ref ak, .int lt, .int fi])), (ct, .inr (1, [.int cw, .int ch, .int cp, .ref aCells, .ref aPrices, .ref aFree, .ref aPlaces, .ref aHomes, .ref aManners, .ref aGone, .ref aPaid, .ref aBlinks])), (aPrices, .inl (cI, 6, .inl fp)), (aManners, .inl (cI, 6, .inl fm)), (aFree, .inl (cI, 6, .inl ff)), (aPaid, .inl (cI, 36, .inl fd2)), (aBlinks, .inl (cI, 36, .inl fb2)), (vw, .inr (6, [.ref vN, .ref vS, .ref vM, .ref vF])), (vM, .inl (cI, 640, .inl vm)), (vF, .inl (cI, 640, .inl vf))])) := by
  refine b_metI (cc := cX8_lookAndPay) (maxL := 5) (ret := (some .int)) (by decide) rfl (Nat.le_of_ble_eq_true rfl) ?_
  intro p e s m below meth c ls A H X hsz hP hK hT hD hA hS hl
  have S : CallFix p m c cX8_lookAndPay 5 s ([.ref x, .int a, .int v] : List Value).toArray wsX8_lookAndPay RX8 := X.1
  have hl : lv_has ls 5 [(0, .ref x), (1, .int a), (2, .int v)] := hl
  have iX1 := jX8_lookAndPay_X1
  have iX6 := jX8_lookAndPay_X6
  have iX8 := jX8_lookAndPay_X8
  refine lv_aload_n S.1 S.2.1 dX8_lookAndPay_0 rfl (lv_at hl 0 rfl) ?_
  refine b_get (v := .ref vw) S iX8 hK hP 0 rfl rfl 6 (by decide) (by decide +kernel) rfl dX8_lookAndPay_1 ?_
  refine b_get (v := .ref vF) S iX6 hK hP 7 rfl rfl 3 (by decide) (by decide +kernel) rfl dX8_lookAndPay_4 ?_
  refine lv_iload_n S.1 S.2.1 dX8_lookAndPay_7 rfl (lv_at hl 2 rfl) ?_
  have hin_1 : vp_in v 640 := (in_of (n := 640) (by  omega) (by  omega))
  refine va_iald S.1 S.2.1 hK.1 hP 9 0 rfl rfl hin_1 dX8_lookAndPay_8 ?_
  refine lv_topi (fun x_2 ex_2 => ?_)
  have tx_2 := rng_get (x := x_2) (show rng vf 640 (0) (6) by assumption) hin_1 ex_2
  have bx_2 : x_2.toInt = (vf v.toNatClampNeg).toInt := by rw [ex_2]
  refine lv_istore_n (lv' := [(3, .int x_2), (0, .ref x), (1, .int a), (2, .int v)]) S.1 S.2.1 dX8_lookAndPay_9 rfl hl (by decide) rfl (fun ls hl => ?_)
  refine lv_iload_n S.1 S.2.1 dX8_lookAndPay_10 rfl (lv_at hl 0 rfl) ?_
  refine lv_bipush (v := (6)) S.1 S.2.1 dX8_lookAndPay_11 (by decide) ?_
  refine lv_icmp_ne (tgt := 18) S.1 S.2.1 dX8_lookAndPay_13 (by decide) (fun c_3 => ?_) (fun c_3 => ?_)
  · rw [eq2 (a := x_2) (b := 6) (A := x_2.toInt) (B := 6) rfl rfl] at c_3
    refine lv_aload_n S.1 S.2.1 dX8_lookAndPay_18 rfl (lv_at hl 1 rfl) ?_
    refine b_get (v := .ref ct) S iX8 hK hP 0 rfl rfl 2 (by decide) (by decide +kernel) rfl dX8_lookAndPay_19 ?_
    refine lv_iload_n S.1 S.2.1 dX8_lookAndPay_22 rfl (lv_at hl 2 rfl) ?_
    refine lv_iload_n S.1 S.2.1 dX8_lookAndPay_23 rfl (lv_at hl 0 rfl) ?_
    refine b_ai (wr := [(x, .inr (8, [.ref sa, .ref tp, .ref ct, .ref dr, .ref rd, .ref im, .ref vw, .ref vu, .ref wh, .ref mk, .ref ak, .int lt, .int fi])), (aPrices, .inl (cI, 6, .inl fp)), (aPaid, .inl (cI, 36, .inl fd)), (aBlinks, .inl (cI, 36, .inl fb)), (vw, .inr (6, [.ref vN, .ref vS, .ref vM, .ref vF])), (vM, .inl (cI, 640, .inl vm)), (vF, .inl (cI, 640, .inl vf))]) (b_runV (q0 := 1) (ci := 1) (As := [.int a, .int x_2]) (s_X1_pays l D cI cZ cC cS sq H.size ct aManners aFree a x_2 cw ch cp aCells aPrices aPlaces aHomes aGone aPaid aBlinks fm ff (by first | with_reducible assumption | decide | (and_intros <;> first | with_reducible assumption | (intros; refine Int.le_antisymm ?_ ?_ <;> omega) | omega) | assumption | (rw [show Int32.toInt 0 = 0 from rfl]; omega)) (by first | with_reducible assumption | decide | (and_intros <;> first | with_reducible assumption | (intros; refine Int.le_antisymm ?_ ?_ <;> omega) | omega) | assumption | (rw [show Int32.toInt 0 = 0 from rfl]; omega))) S gX8_lookAndPay_X1_pays rfl hdV_X1_pays ⟨Nat.le_of_ble_eq_true rfl, Nat.le_of_ble_eq_true rfl⟩ ⟨Nat.le_of_ble_eq_true rfl, Nat.le_of_ble_eq_true rfl⟩ hK hT hS hA hP hD rfl rfl [1, 3, 4] rfl (by decide) rfl hl.1 rfl (Nat.le_of_ble_eq_true rfl) dX8_lookAndPay_24) hP hD hS hA [1, 3, 4] [0, 2, 5, 6, 7, 8, 9] rfl rfl (by decide) (by decide) (fun r_4 w_5 H locs hw_6 hP hD hS => ?_)
    rcases hw_6 with ⟨hf_7, rfl, rfl⟩ | ⟨hf_8, rfl, rfl⟩
    · have hP : va_P D vwCl [(x, .inr (8, [.ref sa, .ref tp, .ref ct, .ref dr, .ref rd, .ref im, .ref vw, .ref vu, .ref wh, .ref mk, .ref ak, .int lt, .int fi])), (aPrices, .inl (cI, 6, .inl fp)), (aPaid, .inl (cI, 36, .inl fd)), (aBlinks, .inl (cI, 36, .inl fb)), (vw, .inr (6, [.ref vN, .ref vS, .ref vM, .ref vF])), (vM, .inl (cI, 640, .inl vm)), (vF, .inl (cI, 640, .inl vf)), (ct, .inr (1, [.int cw, .int ch, .int cp, .ref aCells, .ref aPrices, .ref aFree, .ref aPlaces, .ref aHomes, .ref aManners, .ref aGone, .ref aPaid, .ref aBlinks])), (aManners, .inl (cI, 6, .inl fm)), (aFree, .inl (cI, 6, .inl ff))] H := hP
      have hD : va_D A [(x, .inr (8, [.ref sa, .ref tp, .ref ct, .ref dr, .ref rd, .ref im, .ref vw, .ref vu, .ref wh, .ref mk, .ref ak, .int lt, .int fi])), (aPrices, .inl (cI, 6, .inl fp)), (aPaid, .inl (cI, 36, .inl fd)), (aBlinks, .inl (cI, 36, .inl fb)), (vw, .inr (6, [.ref vN, .ref vS, .ref vM, .ref vF])), (vM, .inl (cI, 640, .inl vm)), (vF, .inl (cI, 640, .inl vf)), (ct, .inr (1, [.int cw, .int ch, .int cp, .ref aCells, .ref aPrices, .ref aFree, .ref aPlaces, .ref aHomes, .ref aManners, .ref aGone, .ref aPaid, .ref aBlinks])), (aManners, .inl (cI, 6, .inl fm)), (aFree, .inl (cI, 6, .inl ff))] := hD
      refine lv_if_eq (tgt := 51) S.1 S.2.1 dX8_lookAndPay_27 (by decide) (fun c_9 => absurd c_9 (by decide)) (fun c_9 => ?_)
      refine lv_aload_n S.1 S.2.1 dX8_lookAndPay_30 rfl (lv_at hl 1 rfl) ?_
      refine b_get (v := .ref ct) S iX8 hK hP 0 rfl rfl 2 (by decide) (by decide +kernel) rfl dX8_lookAndPay_31 ?_
      refine b_get (v := .ref aPrices) S iX1 hK hP 7 rfl rfl 4 (by decide) (by decide +kernel) rfl dX8_lookAndPay_34 ?_
      refine lv_iload_n S.1 S.2.1 dX8_lookAndPay_37 rfl (lv_at hl 0 rfl) ?_
      have hin_10 : vp_in x_2 6 := (in_of (n := 6) (by  omega) (by  omega))
      refine va_iald S.1 S.2.1 hK.1 hP 1 0 rfl rfl hin_10 dX8_lookAndPay_38 ?_
      refine lv_topi (fun x_11 ex_11 => ?_)
      refine lv_aload_n S.1 S.2.1 dX8_lookAndPay_39 rfl (lv_at hl 1 rfl) ?_
      refine b_get (v := .ref vw) S iX8 hK hP 0 rfl rfl 6 (by decide) (by decide +kernel) rfl dX8_lookAndPay_40 ?_
      refine lv_iload_n S.1 S.2.1 dX8_lookAndPay_43 rfl (lv_at hl 3 rfl) ?_
      refine b_ai (wr := [(x, .inr (8, [.ref sa, .ref tp, .ref ct, .ref dr, .ref rd, .ref im, .ref vw, .ref vu, .ref wh, .ref mk, .ref ak, .int lt, .int fi])), (aPrices, .inl (cI, 6, .inl fp)), (aPaid, .inl (cI, 36, .inl fd)), (aBlinks, .inl (cI, 36, .inl fb)), (vF, .inl (cI, 640, .inl vf)), (ct, .inr (1, [.int cw, .int ch, .int cp, .ref aCells, .ref aPrices, .ref aFree, .ref aPlaces, .ref aHomes, .ref aManners, .ref aGone, .ref aPaid, .ref aBlinks])), (aManners, .inl (cI, 6, .inl fm)), (aFree, .inl (cI, 6, .inl ff))]) (b_runV (q0 := 4) (ci := 6) (As := [.int v]) (s_X6_times l D cI cZ cC cS sq H.size vw vM v vN vS vF vm (by first | with_reducible assumption | assumption | omega | decide | (rw [show Int32.toInt 0 = 0 from rfl]; omega)) (by first | with_reducible assumption | decide | (and_intros <;> first | with_reducible assumption | (intros; refine Int.le_antisymm ?_ ?_ <;> omega) | omega) | assumption | (rw [show Int32.toInt 0 = 0 from rfl]; omega))) S gX8_lookAndPay_X6_times rfl hdV_X6_times ⟨Nat.le_of_ble_eq_true rfl, Nat.le_of_ble_eq_true rfl⟩ ⟨Nat.le_of_ble_eq_true rfl, Nat.le_of_ble_eq_true rfl⟩ hK hT hS hA hP hD rfl rfl [4, 5] rfl (by decide) rfl hl.1 rfl (Nat.le_of_ble_eq_true rfl) dX8_lookAndPay_44) hP hD hS hA [4, 5] [0, 1, 2, 3, 6, 7, 8, 9] rfl rfl (by decide) (by decide) (fun r_12 w_13 H locs hw_14 hP hD hS => ?_)
      obtain ⟨hf_15, hf_16, rfl⟩ := hw_14
      have hP : va_P D vwCl [(x, .inr (8, [.ref sa, .ref tp, .ref ct, .ref dr, .ref rd, .ref im, .ref vw, .ref vu, .ref wh, .ref mk, .ref ak, .int lt, .int fi])), (aPrices, .inl (cI, 6, .inl fp)), (aPaid, .inl (cI, 36, .inl fd)), (aBlinks, .inl (cI, 36, .inl fb)), (vF, .inl (cI, 640, .inl vf)), (ct, .inr (1, [.int cw, .int ch, .int cp, .ref aCells, .ref aPrices, .ref aFree, .ref aPlaces, .ref aHomes, .ref aManners, .ref aGone, .ref aPaid, .ref aBlinks])), (aManners, .inl (cI, 6, .inl fm)), (aFree, .inl (cI, 6, .inl ff)), (vw, .inr (6, [.ref vN, .ref vS, .ref vM, .ref vF])), (vM, .inl (cI, 640, .inl vm))] H := hP
      have hD : va_D A [(x, .inr (8, [.ref sa, .ref tp, .ref ct, .ref dr, .ref rd, .ref im, .ref vw, .ref vu, .ref wh, .ref mk, .ref ak, .int lt, .int fi])), (aPrices, .inl (cI, 6, .inl fp)), (aPaid, .inl (cI, 36, .inl fd)), (aBlinks, .inl (cI, 36, .inl fb)), (vF, .inl (cI, 640, .inl vf)), (ct, .inr (1, [.int cw, .int ch, .int cp, .ref aCells, .ref aPrices, .ref aFree, .ref aPlaces, .ref aHomes, .ref aManners, .ref aGone, .ref aPaid, .ref aBlinks])), (aManners, .inl (cI, 6, .inl fm)), (aFree, .inl (cI, 6, .inl ff)), (vw, .inr (6, [.ref vN, .ref vS, .ref vM, .ref vF])), (vM, .inl (cI, 640, .inl vm))] := hD
      refine lv_imul S.1 S.2.1 dX8_lookAndPay_47 ?_
      refine lv_topi (fun x_17 ex_17 => ?_)
      refine lv_goto (tgt := 52) S.1 S.2.1 dX8_lookAndPay_48 (by decide) ?_
      refine lv_istore (lv' := [(4, .int x_17), (3, .int x_2), (0, .ref x), (1, .int a), (2, .int v)]) S.1 S.2.1 dX8_lookAndPay_52 hl (by decide) rfl (fun ls hl => ?_)
      refine lv_aload_n S.1 S.2.1 dX8_lookAndPay_54 rfl (lv_at hl 2 rfl) ?_
      refine b_get (v := .ref ct) S iX8 hK hP 0 rfl rfl 2 (by decide) (by decide +kernel) rfl dX8_lookAndPay_55 ?_
      refine b_get (v := .ref aPaid) S iX1 hK hP 5 rfl rfl 10 (by decide) (by decide +kernel) rfl dX8_lookAndPay_58 ?_
      refine lv_iload_n S.1 S.2.1 dX8_lookAndPay_61 rfl (lv_at hl 3 rfl) ?_
      refine lv_bipush (v := (6)) S.1 S.2.1 dX8_lookAndPay_62 (by decide) ?_
      refine lv_imul S.1 S.2.1 dX8_lookAndPay_64 ?_
      refine lv_topi (fun x_18 ex_18 => ?_)
      have tx_18 : x_18.toInt = a.toInt * 6 := mulI (A := a.toInt) (B := 6) ex_18 rfl rfl (by  omega) (by  omega)
      refine lv_iload_n S.1 S.2.1 dX8_lookAndPay_65 rfl (lv_at hl 1 rfl) ?_
      refine lv_iadd S.1 S.2.1 dX8_lookAndPay_66 ?_
      refine lv_topi (fun x_19 ex_19 => ?_)
      have tx_19 : x_19.toInt = x_18.toInt + (x_2.toInt) := addI (A := x_18.toInt) (B := x_2.toInt) ex_19 rfl rfl (by  omega) (by  omega)
      refine lv_dup2_11 S.1 S.2.1 dX8_lookAndPay_67 rfl rfl ?_
      have hin_20 : vp_in x_19 36 := (in_of (n := 36) (by  omega) (by  omega))
      refine va_iald S.1 S.2.1 hK.1 hP 2 0 rfl rfl hin_20 dX8_lookAndPay_68 ?_
      refine lv_topi (fun x_21 ex_21 => ?_)
      refine lv_iload S.1 S.2.1 dX8_lookAndPay_69 (lv_at hl 0 rfl) ?_
      refine lv_iadd S.1 S.2.1 dX8_lookAndPay_71 ?_
      refine lv_topi (fun x_22 ex_22 => ?_)
      refine va_iast S.1 S.2.1 hK.1 hP hD hS 2 0 rfl rfl (in_of (n := 36) (by  omega) (by  omega)) dX8_lookAndPay_72 (fun H locs hP hD hS => ?_)
      obtain ⟨f_23, hf_23⟩ : ∃ g, (upd fd x_19.toNatClampNeg (x_22)) = g := ⟨_, rfl⟩
      have hP : va_P D vwCl [(x, .inr (8, [.ref sa, .ref tp, .ref ct, .ref dr, .ref rd, .ref im, .ref vw, .ref vu, .ref wh, .ref mk, .ref ak, .int lt, .int fi])), (aPrices, .inl (cI, 6, .inl fp)), (aPaid, .inl (cI, 36, .inl (upd fd x_19.toNatClampNeg (x_22)))), (aBlinks, .inl (cI, 36, .inl fb)), (vF, .inl (cI, 640, .inl vf)), (ct, .inr (1, [.int cw, .int ch, .int cp, .ref aCells, .ref aPrices, .ref aFree, .ref aPlaces, .ref aHomes, .ref aManners, .ref aGone, .ref aPaid, .ref aBlinks])), (aManners, .inl (cI, 6, .inl fm)), (aFree, .inl (cI, 6, .inl ff)), (vw, .inr (6, [.ref vN, .ref vS, .ref vM, .ref vF])), (vM, .inl (cI, 640, .inl vm))] H := hP
      have hD : va_D A [(x, .inr (8, [.ref sa, .ref tp, .ref ct, .ref dr, .ref rd, .ref im, .ref vw, .ref vu, .ref wh, .ref mk, .ref ak, .int lt, .int fi])), (aPrices, .inl (cI, 6, .inl fp)), (aPaid, .inl (cI, 36, .inl (upd fd x_19.toNatClampNeg (x_22)))), (aBlinks, .inl (cI, 36, .inl fb)), (vF, .inl (cI, 640, .inl vf)), (ct, .inr (1, [.int cw, .int ch, .int cp, .ref aCells, .ref aPrices, .ref aFree, .ref aPlaces, .ref aHomes, .ref aManners, .ref aGone, .ref aPaid, .ref aBlinks])), (aManners, .inl (cI, 6, .inl fm)), (aFree, .inl (cI, 6, .inl ff)), (vw, .inr (6, [.ref vN, .ref vS, .ref vM, .ref vF])), (vM, .inl (cI, 640, .inl vm))] := hD
      rw [hf_23] at hP hD
      refine lv_aload_n S.1 S.2.1 dX8_lookAndPay_73 rfl (lv_at hl 2 rfl) ?_
      refine b_get (v := .ref ct) S iX8 hK hP 0 rfl rfl 2 (by decide) (by decide +kernel) rfl dX8_lookAndPay_74 ?_
      refine b_get (v := .ref aBlinks) S iX1 hK hP 5 rfl rfl 11 (by decide) (by decide +kernel) rfl dX8_lookAndPay_77 ?_
      refine lv_iload_n S.1 S.2.1 dX8_lookAndPay_80 rfl (lv_at hl 3 rfl) ?_
      refine lv_bipush (v := (6)) S.1 S.2.1 dX8_lookAndPay_81 (by decide) ?_
      refine lv_imul S.1 S.2.1 dX8_lookAndPay_83 ?_
      refine lv_topi (fun x_24 ex_24 => ?_)
      have tx_24 : x_24.toInt = a.toInt * 6 := mulI (A := a.toInt) (B := 6) ex_24 rfl rfl (by  omega) (by  omega)
      refine lv_iload_n S.1 S.2.1 dX8_lookAndPay_84 rfl (lv_at hl 1 rfl) ?_
      refine lv_iadd S.1 S.2.1 dX8_lookAndPay_85 ?_
      refine lv_topi (fun x_25 ex_25 => ?_)
      have tx_25 : x_25.toInt = x_24.toInt + (x_2.toInt) := addI (A := x_24.toInt) (B := x_2.toInt) ex_25 rfl rfl (by  omega) (by  omega)
      refine lv_dup2_11 S.1 S.2.1 dX8_lookAndPay_86 rfl rfl ?_
      have hin_26 : vp_in x_25 36 := (in_of (n := 36) (by  omega) (by  omega))
      refine va_iald S.1 S.2.1 hK.1 hP 3 0 rfl rfl hin_26 dX8_lookAndPay_87 ?_
      refine lv_topi (fun x_27 ex_27 => ?_)
      refine lv_iconst (v := (1)) S.1 S.2.1 dX8_lookAndPay_88 (by decide) ?_
      refine lv_iadd S.1 S.2.1 dX8_lookAndPay_89 ?_
      refine lv_topi (fun x_28 ex_28 => ?_)
      refine va_iast S.1 S.2.1 hK.1 hP hD hS 3 0 rfl rfl (in_of (n := 36) (by  omega) (by  omega)) dX8_lookAndPay_90 (fun H locs hP hD hS => ?_)
      obtain ⟨f_29, hf_29⟩ : ∃ g, (upd fb x_25.toNatClampNeg (x_28)) = g := ⟨_, rfl⟩
      have hP : va_P D vwCl [(x, .inr (8, [.ref sa, .ref tp, .ref ct, .ref dr, .ref rd, .ref im, .ref vw, .ref vu, .ref wh, .ref mk, .ref ak, .int lt, .int fi])), (aPrices, .inl (cI, 6, .inl fp)), (aPaid, .inl (cI, 36, .inl f_23)), (aBlinks, .inl (cI, 36, .inl (upd fb x_25.toNatClampNeg (x_28)))), (vF, .inl (cI, 640, .inl vf)), (ct, .inr (1, [.int cw, .int ch, .int cp, .ref aCells, .ref aPrices, .ref aFree, .ref aPlaces, .ref aHomes, .ref aManners, .ref aGone, .ref aPaid, .ref aBlinks])), (aManners, .inl (cI, 6, .inl fm)), (aFree, .inl (cI, 6, .inl ff)), (vw, .inr (6, [.ref vN, .ref vS, .ref vM, .ref vF])), (vM, .inl (cI, 640, .inl vm))] H := hP
      have hD : va_D A [(x, .inr (8, [.ref sa, .ref tp, .ref ct, .ref dr, .ref rd, .ref im, .ref vw, .ref vu, .ref wh, .ref mk, .ref ak, .int lt, .int fi])), (aPrices, .inl (cI, 6, .inl fp)), (aPaid, .inl (cI, 36, .inl f_23)), (aBlinks, .inl (cI, 36, .inl (upd fb x_25.toNatClampNeg (x_28)))), (vF, .inl (cI, 640, .inl vf)), (ct, .inr (1, [.int cw, .int ch, .int cp, .ref aCells, .ref aPrices, .ref aFree, .ref aPlaces, .ref aHomes, .ref aManners, .ref aGone, .ref aPaid, .ref aBlinks])), (aManners, .inl (cI, 6, .inl fm)), (aFree, .inl (cI, 6, .inl ff)), (vw, .inr (6, [.ref vN, .ref vS, .ref vM, .ref vF])), (vM, .inl (cI, 640, .inl vm))] := hD
      rw [hf_29] at hP hD
      refine lv_iload S.1 S.2.1 dX8_lookAndPay_91 (lv_at hl 0 rfl) ?_
      have hP := hP.sub (ws' := [(x, .inr (8, [.ref sa, .ref tp, .ref ct, .ref dr, .ref rd, .ref im, .ref vw, .ref vu, .ref wh, .ref mk, .ref ak, .int lt, .int fi])), (ct, .inr (1, [.int cw, .int ch, .int cp, .ref aCells, .ref aPrices, .ref aFree, .ref aPlaces, .ref aHomes, .ref aManners, .ref aGone, .ref aPaid, .ref aBlinks])), (aPrices, .inl (cI, 6, .inl fp)), (aManners, .inl (cI, 6, .inl fm)), (aFree, .inl (cI, 6, .inl ff)), (aPaid, .inl (cI, 36, .inl f_23)), (aBlinks, .inl (cI, 36, .inl f_29)), (vw, .inr (6, [.ref vN, .ref vS, .ref vM, .ref vF])), (vM, .inl (cI, 640, .inl vm)), (vF, .inl (cI, 640, .inl vf))]) [0, 5, 1, 6, 7, 2, 3, 8, 9, 4] rfl
      have hD := hD.sub (ws' := [(x, .inr (8, [.ref sa, .ref tp, .ref ct, .ref dr, .ref rd, .ref im, .ref vw, .ref vu, .ref wh, .ref mk, .ref ak, .int lt, .int fi])), (ct, .inr (1, [.int cw, .int ch, .int cp, .ref aCells, .ref aPrices, .ref aFree, .ref aPlaces, .ref aHomes, .ref aManners, .ref aGone, .ref aPaid, .ref aBlinks])), (aPrices, .inl (cI, 6, .inl fp)), (aManners, .inl (cI, 6, .inl fm)), (aFree, .inl (cI, 6, .inl ff)), (aPaid, .inl (cI, 36, .inl f_23)), (aBlinks, .inl (cI, 36, .inl f_29)), (vw, .inr (6, [.ref vN, .ref vS, .ref vM, .ref vF])), (vM, .inl (cI, 640, .inl vm)), (vF, .inl (cI, 640, .inl vf))]) [0, 5, 1, 6, 7, 2, 3, 8, 9, 4] (by decide) rfl
      exact b_iret S.1 S.2.1 X.2.1 X.2.2.1 hP hD hS (Or.inr (⟨f_23, f_29, (by first | with_reducible assumption | decide | (and_intros <;> first | with_reducible assumption | (intros; refine Int.le_antisymm ?_ ?_ <;> omega) | omega) | assumption | (rw [show Int32.toInt 0 = 0 from rfl]; omega)), (by first | exact py_1 (by with_reducible assumption) (by with_reducible assumption) (by with_reducible assumption) (by with_reducible assumption) (by with_reducible assumption) hpr (by first | (and_intros <;> first | with_reducible assumption | (refine Int.le_antisymm ?_ ?_ <;> omega) | omega) | omega) (by first | (and_intros <;> first | with_reducible assumption | (refine Int.le_antisymm ?_ ?_ <;> omega) | omega) | omega) | exact py_0 (by with_reducible assumption) (by with_reducible assumption) rfl | exact py_1 (by first | with_reducible assumption | assumption) (by first | with_reducible assumption | assumption) (by first | with_reducible assumption | assumption) (by first | with_reducible assumption | assumption) (by first | with_reducible assumption | assumption) hpr (by first | (and_intros <;> first | with_reducible assumption | (refine Int.le_antisymm ?_ ?_ <;> omega) | omega) | omega) (by first | (and_intros <;> first | with_reducible assumption | (refine Int.le_antisymm ?_ ?_ <;> omega) | omega) | omega) | exact py_0 (by first | with_reducible assumption | assumption) (by first | with_reducible assumption | assumption) rfl), (ad_mk (by first | with_reducible assumption | assumption) (by first | with_reducible assumption | assumption) (by first | with_reducible assumption | assumption) (by first | (and_intros <;> first | with_reducible assumption | (refine Int.le_antisymm ?_ ?_ <;> omega) | omega) | omega)), (ad_mk (by first | with_reducible assumption | assumption) (by first | with_reducible assumption | assumption) (by first | with_reducible assumption | assumption) (by first | (and_intros <;> first | with_reducible assumption | (refine Int.le_antisymm ?_ ?_ <;> omega) | omega) | omega)), rfl⟩)) dX8_lookAndPay_93
    · have hP : va_P D vwCl [(x, .inr (8, [.ref sa, .ref tp, .ref ct, .ref dr, .ref rd, .ref im, .ref vw, .ref vu, .ref wh, .ref mk, .ref ak, .int lt, .int fi])), (aPrices, .inl (cI, 6, .inl fp)), (aPaid, .inl (cI, 36, .inl fd)), (aBlinks, .inl (cI, 36, .inl fb)), (vw, .inr (6, [.ref vN, .ref vS, .ref vM, .ref vF])), (vM, .inl (cI, 640, .inl vm)), (vF, .inl (cI, 640, .inl vf)), (ct, .inr (1, [.int cw, .int ch, .int cp, .ref aCells, .ref aPrices, .ref aFree, .ref aPlaces, .ref aHomes, .ref aManners, .ref aGone, .ref aPaid, .ref aBlinks])), (aManners, .inl (cI, 6, .inl fm)), (aFree, .inl (cI, 6, .inl ff))] H := hP
      have hD : va_D A [(x, .inr (8, [.ref sa, .ref tp, .ref ct, .ref dr, .ref rd, .ref im, .ref vw, .ref vu, .ref wh, .ref mk, .ref ak, .int lt, .int fi])), (aPrices, .inl (cI, 6, .inl fp)), (aPaid, .inl (cI, 36, .inl fd)), (aBlinks, .inl (cI, 36, .inl fb)), (vw, .inr (6, [.ref vN, .ref vS, .ref vM, .ref vF])), (vM, .inl (cI, 640, .inl vm)), (vF, .inl (cI, 640, .inl vf)), (ct, .inr (1, [.int cw, .int ch, .int cp, .ref aCells, .ref aPrices, .ref aFree, .ref aPlaces, .ref aHomes, .ref aManners, .ref aGone, .ref aPaid, .ref aBlinks])), (aManners, .inl (cI, 6, .inl fm)), (aFree, .inl (cI, 6, .inl ff))] := hD
      refine lv_if_eq (tgt := 51) S.1 S.2.1 dX8_lookAndPay_27 (by decide) (fun c_30 => ?_) (fun c_30 => absurd c_30 (by decide))
      refine lv_iconst (v := (0)) S.1 S.2.1 dX8_lookAndPay_51 (by decide) ?_
      refine lv_istore (lv' := [(4, .int 0), (3, .int x_2), (0, .ref x), (1, .int a), (2, .int v)]) S.1 S.2.1 dX8_lookAndPay_52 hl (by decide) rfl (fun ls hl => ?_)
      refine lv_aload_n S.1 S.2.1 dX8_lookAndPay_54 rfl (lv_at hl 2 rfl) ?_
      refine b_get (v := .ref ct) S iX8 hK hP 0 rfl rfl 2 (by decide) (by decide +kernel) rfl dX8_lookAndPay_55 ?_
      refine b_get (v := .ref aPaid) S iX1 hK hP 7 rfl rfl 10 (by decide) (by decide +kernel) rfl dX8_lookAndPay_58 ?_
      refine lv_iload_n S.1 S.2.1 dX8_lookAndPay_61 rfl (lv_at hl 3 rfl) ?_
      refine lv_bipush (v := (6)) S.1 S.2.1 dX8_lookAndPay_62 (by decide) ?_
      refine lv_imul S.1 S.2.1 dX8_lookAndPay_64 ?_
      refine lv_topi (fun x_31 ex_31 => ?_)
      have tx_31 : x_31.toInt = a.toInt * 6 := mulI (A := a.toInt) (B := 6) ex_31 rfl rfl (by  omega) (by  omega)
      refine lv_iload_n S.1 S.2.1 dX8_lookAndPay_65 rfl (lv_at hl 1 rfl) ?_
      refine lv_iadd S.1 S.2.1 dX8_lookAndPay_66 ?_
      refine lv_topi (fun x_32 ex_32 => ?_)
      have tx_32 : x_32.toInt = x_31.toInt + (x_2.toInt) := addI (A := x_31.toInt) (B := x_2.toInt) ex_32 rfl rfl (by  omega) (by  omega)
      refine lv_dup2_11 S.1 S.2.1 dX8_lookAndPay_67 rfl rfl ?_
      have hin_33 : vp_in x_32 36 := (in_of (n := 36) (by  omega) (by  omega))
      refine va_iald S.1 S.2.1 hK.1 hP 2 0 rfl rfl hin_33 dX8_lookAndPay_68 ?_
      refine lv_topi (fun x_34 ex_34 => ?_)
      refine lv_iload S.1 S.2.1 dX8_lookAndPay_69 (lv_at hl 0 rfl) ?_
      refine lv_iadd S.1 S.2.1 dX8_lookAndPay_71 ?_
      refine lv_topi (fun x_35 ex_35 => ?_)
      refine va_iast S.1 S.2.1 hK.1 hP hD hS 2 0 rfl rfl (in_of (n := 36) (by  omega) (by  omega)) dX8_lookAndPay_72 (fun H locs hP hD hS => ?_)
      obtain ⟨f_36, hf_36⟩ : ∃ g, (upd fd x_32.toNatClampNeg (x_35)) = g := ⟨_, rfl⟩
      have hP : va_P D vwCl [(x, .inr (8, [.ref sa, .ref tp, .ref ct, .ref dr, .ref rd, .ref im, .ref vw, .ref vu, .ref wh, .ref mk, .ref ak, .int lt, .int fi])), (aPrices, .inl (cI, 6, .inl fp)), (aPaid, .inl (cI, 36, .inl (upd fd x_32.toNatClampNeg (x_35)))), (aBlinks, .inl (cI, 36, .inl fb)), (vw, .inr (6, [.ref vN, .ref vS, .ref vM, .ref vF])), (vM, .inl (cI, 640, .inl vm)), (vF, .inl (cI, 640, .inl vf)), (ct, .inr (1, [.int cw, .int ch, .int cp, .ref aCells, .ref aPrices, .ref aFree, .ref aPlaces, .ref aHomes, .ref aManners, .ref aGone, .ref aPaid, .ref aBlinks])), (aManners, .inl (cI, 6, .inl fm)), (aFree, .inl (cI, 6, .inl ff))] H := hP
      have hD : va_D A [(x, .inr (8, [.ref sa, .ref tp, .ref ct, .ref dr, .ref rd, .ref im, .ref vw, .ref vu, .ref wh, .ref mk, .ref ak, .int lt, .int fi])), (aPrices, .inl (cI, 6, .inl fp)), (aPaid, .inl (cI, 36, .inl (upd fd x_32.toNatClampNeg (x_35)))), (aBlinks, .inl (cI, 36, .inl fb)), (vw, .inr (6, [.ref vN, .ref vS, .ref vM, .ref vF])), (vM, .inl (cI, 640, .inl vm)), (vF, .inl (cI, 640, .inl vf)), (ct, .inr (1, [.int cw, .int ch, .int cp, .ref aCells, .ref aPrices, .ref aFree, .ref aPlaces, .ref aHomes, .ref aManners, .ref aGone, .ref aPaid, .ref aBlinks])), (aManners, .inl (cI, 6, .inl fm)), (aFree, .inl (cI, 6, .inl ff))] := hD
      rw [hf_36] at hP hD
      refine lv_aload_n S.1 S.2.1 dX8_lookAndPay_73 rfl (lv_at hl 2 rfl) ?_
      refine b_get (v := .ref ct) S iX8 hK hP 0 rfl rfl 2 (by decide) (by decide +kernel) rfl dX8_lookAndPay_74 ?_
      refine b_get (v := .ref aBlinks) S iX1 hK hP 7 rfl rfl 11 (by decide) (by decide +kernel) rfl dX8_lookAndPay_77 ?_
      refine lv_iload_n S.1 S.2.1 dX8_lookAndPay_80 rfl (lv_at hl 3 rfl) ?_
      refine lv_bipush (v := (6)) S.1 S.2.1 dX8_lookAndPay_81 (by decide) ?_
      refine lv_imul S.1 S.2.1 dX8_lookAndPay_83 ?_
      refine lv_topi (fun x_37 ex_37 => ?_)
      have tx_37 : x_37.toInt = a.toInt * 6 := mulI (A := a.toInt) (B := 6) ex_37 rfl rfl (by  omega) (by  omega)
      refine lv_iload_n S.1 S.2.1 dX8_lookAndPay_84 rfl (lv_at hl 1 rfl) ?_
      refine lv_iadd S.1 S.2.1 dX8_lookAndPay_85 ?_
      refine lv_topi (fun x_38 ex_38 => ?_)
      have tx_38 : x_38.toInt = x_37.toInt + (x_2.toInt) := addI (A := x_37.toInt) (B := x_2.toInt) ex_38 rfl rfl (by  omega) (by  omega)
      refine lv_dup2_11 S.1 S.2.1 dX8_lookAndPay_86 rfl rfl ?_
      have hin_39 : vp_in x_38 36 := (in_of (n := 36) (by  omega) (by  omega))
      refine va_iald S.1 S.2.1 hK.1 hP 3 0 rfl rfl hin_39 dX8_lookAndPay_87 ?_
      refine lv_topi (fun x_40 ex_40 => ?_)
      refine lv_iconst (v := (1)) S.1 S.2.1 dX8_lookAndPay_88 (by decide) ?_
      refine lv_iadd S.1 S.2.1 dX8_lookAndPay_89 ?_
      refine lv_topi (fun x_41 ex_41 => ?_)
      refine va_iast S.1 S.2.1 hK.1 hP hD hS 3 0 rfl rfl (in_of (n := 36) (by  omega) (by  omega)) dX8_lookAndPay_90 (fun H locs hP hD hS => ?_)
      obtain ⟨f_42, hf_42⟩ : ∃ g, (upd fb x_38.toNatClampNeg (x_41)) = g := ⟨_, rfl⟩
      have hP : va_P D vwCl [(x, .inr (8, [.ref sa, .ref tp, .ref ct, .ref dr, .ref rd, .ref im, .ref vw, .ref vu, .ref wh, .ref mk, .ref ak, .int lt, .int fi])), (aPrices, .inl (cI, 6, .inl fp)), (aPaid, .inl (cI, 36, .inl f_36)), (aBlinks, .inl (cI, 36, .inl (upd fb x_38.toNatClampNeg (x_41)))), (vw, .inr (6, [.ref vN, .ref vS, .ref vM, .ref vF])), (vM, .inl (cI, 640, .inl vm)), (vF, .inl (cI, 640, .inl vf)), (ct, .inr (1, [.int cw, .int ch, .int cp, .ref aCells, .ref aPrices, .ref aFree, .ref aPlaces, .ref aHomes, .ref aManners, .ref aGone, .ref aPaid, .ref aBlinks])), (aManners, .inl (cI, 6, .inl fm)), (aFree, .inl (cI, 6, .inl ff))] H := hP
      have hD : va_D A [(x, .inr (8, [.ref sa, .ref tp, .ref ct, .ref dr, .ref rd, .ref im, .ref vw, .ref vu, .ref wh, .ref mk, .ref ak, .int lt, .int fi])), (aPrices, .inl (cI, 6, .inl fp)), (aPaid, .inl (cI, 36, .inl f_36)), (aBlinks, .inl (cI, 36, .inl (upd fb x_38.toNatClampNeg (x_41)))), (vw, .inr (6, [.ref vN, .ref vS, .ref vM, .ref vF])), (vM, .inl (cI, 640, .inl vm)), (vF, .inl (cI, 640, .inl vf)), (ct, .inr (1, [.int cw, .int ch, .int cp, .ref aCells, .ref aPrices, .ref aFree, .ref aPlaces, .ref aHomes, .ref aManners, .ref aGone, .ref aPaid, .ref aBlinks])), (aManners, .inl (cI, 6, .inl fm)), (aFree, .inl (cI, 6, .inl ff))] := hD
      rw [hf_42] at hP hD
      refine lv_iload S.1 S.2.1 dX8_lookAndPay_91 (lv_at hl 0 rfl) ?_
      have hP := hP.sub (ws' := [(x, .inr (8, [.ref sa, .ref tp, .ref ct, .ref dr, .ref rd, .ref im, .ref vw, .ref vu, .ref wh, .ref mk, .ref ak, .int lt, .int fi])), (ct, .inr (1, [.int cw, .int ch, .int cp, .ref aCells, .ref aPrices, .ref aFree, .ref aPlaces, .ref aHomes, .ref aManners, .ref aGone, .ref aPaid, .ref aBlinks])), (aPrices, .inl (cI, 6, .inl fp)), (aManners, .inl (cI, 6, .inl fm)), (aFree, .inl (cI, 6, .inl ff)), (aPaid, .inl (cI, 36, .inl f_36)), (aBlinks, .inl (cI, 36, .inl f_42)), (vw, .inr (6, [.ref vN, .ref vS, .ref vM, .ref vF])), (vM, .inl (cI, 640, .inl vm)), (vF, .inl (cI, 640, .inl vf))]) [0, 7, 1, 8, 9, 2, 3, 4, 5, 6] rfl
      have hD := hD.sub (ws' := [(x, .inr (8, [.ref sa, .ref tp, .ref ct, .ref dr, .ref rd, .ref im, .ref vw, .ref vu, .ref wh, .ref mk, .ref ak, .int lt, .int fi])), (ct, .inr (1, [.int cw, .int ch, .int cp, .ref aCells, .ref aPrices, .ref aFree, .ref aPlaces, .ref aHomes, .ref aManners, .ref aGone, .ref aPaid, .ref aBlinks])), (aPrices, .inl (cI, 6, .inl fp)), (aManners, .inl (cI, 6, .inl fm)), (aFree, .inl (cI, 6, .inl ff)), (aPaid, .inl (cI, 36, .inl f_36)), (aBlinks, .inl (cI, 36, .inl f_42)), (vw, .inr (6, [.ref vN, .ref vS, .ref vM, .ref vF])), (vM, .inl (cI, 640, .inl vm)), (vF, .inl (cI, 640, .inl vf))]) [0, 7, 1, 8, 9, 2, 3, 4, 5, 6] (by decide) rfl
      have lq0 : Int32.toInt (0) = 0 := by decide
      exact b_iret S.1 S.2.1 X.2.1 X.2.2.1 hP hD hS (Or.inr (⟨f_36, f_42, (by first | with_reducible assumption | decide | (and_intros <;> first | with_reducible assumption | (intros; refine Int.le_antisymm ?_ ?_ <;> omega) | omega) | assumption | (rw [show Int32.toInt 0 = 0 from rfl]; omega)), (by first | exact py_1 (by with_reducible assumption) (by with_reducible assumption) (by with_reducible assumption) (by with_reducible assumption) (by with_reducible assumption) hpr (by first | (and_intros <;> first | with_reducible assumption | (refine Int.le_antisymm ?_ ?_ <;> omega) | omega) | omega) (by first | (and_intros <;> first | with_reducible assumption | (refine Int.le_antisymm ?_ ?_ <;> omega) | omega) | omega) | exact py_0 (by with_reducible assumption) (by with_reducible assumption) rfl | exact py_1 (by first | with_reducible assumption | assumption) (by first | with_reducible assumption | assumption) (by first | with_reducible assumption | assumption) (by first | with_reducible assumption | assumption) (by first | with_reducible assumption | assumption) hpr (by first | (and_intros <;> first | with_reducible assumption | (refine Int.le_antisymm ?_ ?_ <;> omega) | omega) | omega) (by first | (and_intros <;> first | with_reducible assumption | (refine Int.le_antisymm ?_ ?_ <;> omega) | omega) | omega) | exact py_0 (by first | with_reducible assumption | assumption) (by first | with_reducible assumption | assumption) rfl), (ad_mk (by first | with_reducible assumption | assumption) (by first | with_reducible assumption | assumption) (by first | with_reducible assumption | assumption) (by first | (and_intros <;> first | with_reducible assumption | (refine Int.le_antisymm ?_ ?_ <;> omega) | omega) | omega)), (ad_mk (by first | with_reducible assumption | assumption) (by first | with_reducible assumption | assumption) (by first | with_reducible assumption | assumption) (by first | (and_intros <;> first | with_reducible assumption | (refine Int.le_antisymm ?_ ?_ <;> omega) | omega) | omega)), rfl⟩)) dX8_lookAndPay_93
  · rw [eq2 (a := x_2) (b := 6) (A := x_2.toInt) (B := 6) rfl rfl] at c_3
    refine lv_iconst (v := (0)) S.1 S.2.1 dX8_lookAndPay_16 (by decide) ?_
    exact b_iret S.1 S.2.1 X.2.1 X.2.2.1 hP hD hS (Or.inl ⟨(by first | with_reducible assumption | decide | (and_intros <;> first | with_reducible assumption | (intros; refine Int.le_antisymm ?_ ?_ <;> omega) | omega) | assumption | (rw [show Int32.toInt 0 = 0 from rfl]; omega)), rfl, rfl⟩) dX8_lookAndPay_17
set_option maxHeartbeats 4000000 in
set_option maxRecDepth 100000 in
theorem s_X8_goOneStep (l : Launch) (D : va_G) (cI cZ cC cS : ClassId) (sq : Nat → Nat) (sz : Nat) (x : Nat) (ct : Nat) (aPrices : Nat) (aPlaces : Nat) (aManners : Nat) (aFree : Nat) (aGone : Nat) (aPaid : Nat) (aBlinks : Nat) (vw : Nat) (vN : Nat) (vM : Nat) (vF : Nat) (a : Int32) (co : Int32) (sa : Nat) (tp : Nat) (dr : Nat) (rd : Nat) (im : Nat) (vu : Nat) (wh : Nat) (mk : Nat) (ak : Nat) (lt : Int32) (fi : Int32) (cw : Int32) (ch : Int32) (cp : Int32) (aCells : Nat) (aHomes : Nat) (fp : Nat → Int32) (fl : Nat → Int32) (fm : Nat → Int32) (ff : Nat → Int32) (fg : Nat → Int32) (fd : Nat → Int32) (fb : Nat → Int32) (vS : Nat) (vn : Nat → Int32) (vm : Nat → Int32) (vf : Nat → Int32) (gg : Nat → Int) (hrg_fl : rng fl 6 (0) (79)) (hrg_vn : rng vn 640 (-1) (79)) (hrg_vm : rng vm 640 (0) (2)) (hrg_vf : rng vf 640 (0) (6)) (ha : 0 ≤ a.toInt ∧ a.toInt < 6) (hco : 0 ≤ co.toInt ∧ co.toInt < 16) (hag : a.toInt < gg 3) (h6 : gg 3 ≤ 6) (hpr : rng fp 6 (0) (99)) (hgo : gOK gg) (hq_ : CXq gg fp ff fm) (hv_ : VWn gg vn vm vf) (hd_ : CXd gg fl fg fd fb) : mI l yX8_goOneStep wsX8_goOneStep 3 120 D (tyW cI cZ cC cS) sq [(x, .inr (8, [.ref sa, .ref tp, .ref ct, .ref dr, .ref rd, .ref im, .ref vw, .ref vu, .ref wh, .ref mk, .ref ak, .int lt, .int fi])), (ct, .inr (1, [.int cw, .int ch, .int cp, .ref aCells, .ref aPrices, .ref aFree, .ref aPlaces, .ref aHomes, .ref aManners, .ref aGone, .ref aPaid, .ref aBlinks])), (aPrices, .inl (cI, 6, .inl fp)), (aPlaces, .inl (cI, 6, .inl fl)), (aManners, .inl (cI, 6, .inl fm)), (aFree, .inl (cI, 6, .inl ff)), (aGone, .inl (cI, 6, .inl fg)), (aPaid, .inl (cI, 36, .inl fd)), (aBlinks, .inl (cI, 36, .inl fb)), (vw, .inr (6, [.ref vN, .ref vS, .ref vM, .ref vF])), (vN, .inl (cI, 640, .inl vn)), (vM, .inl (cI, 640, .inl vm)), (vF, .inl (cI, 640, .inl vf))] sz [.ref x, .int a, .int co] (fun r w => (∃ (fl2 : Nat → Int32), ∃ (fg2 : Nat → Int32), ∃ (fd2 : Nat → Int32), ∃ (fb2 : Nat → Int32), (rng fl2 6 (0) (79)) ∧ (r.toInt = coG gg a.toInt co.toInt) ∧ (CXd (stG gg a.toInt co.toInt) fl2 fg2 fd2 fb2) ∧ w = [(x, .inr (8, [.ref sa, .ref tp, .ref ct, .ref dr, .ref rd, .ref im, .ref vw, .ref vu, .ref wh, .ref mk, .ref ak, .int lt, .int fi])), (ct, .inr (1, [.int cw, .int ch, .int cp, .ref aCells, .ref aPrices, .ref aFree, .ref aPlaces, .ref aHomes, .ref aManners, .ref aGone, .ref aPaid, .ref aBlinks])), (aPrices, .inl (cI, 6, .inl fp)), (aPlaces, .inl (cI, 6, .inl fl2)), (aManners, .inl (cI, 6, .inl fm)), (aFree, .inl (cI, 6, .inl ff)), (aGone, .inl (cI, 6, .inl fg2)), (aPaid, .inl (cI, 36, .inl fd2)), (aBlinks, .inl (cI, 36, .inl fb2)), (vw, .inr (6, [.ref vN, .ref vS, .ref vM, .ref vF])), (vN, .inl (cI, 640, .inl vn)), (vM, .inl (cI, 640, .inl vm)), (vF, .inl (cI, 640, .inl vf))])) := by
  refine b_metI (cc := cX8_goOneStep) (maxL := 5) (ret := (some .int)) (by decide) rfl (Nat.le_of_ble_eq_true rfl) ?_
  intro p e s m below meth c ls A H X hsz hP hK hT hD hA hS hl
  have S : CallFix p m c cX8_goOneStep 5 s ([.ref x, .int a, .int co] : List Value).toArray wsX8_goOneStep RX8 := X.1
  have hl : lv_has ls 5 [(0, .ref x), (1, .int a), (2, .int co)] := hl
  have iX1 := jX8_goOneStep_X1
  have iX6 := jX8_goOneStep_X6
  have iX8 := jX8_goOneStep_X8
  refine lv_aload_n S.1 S.2.1 dX8_goOneStep_0 rfl (lv_at hl 0 rfl) ?_
  refine b_get (v := .ref ct) S iX8 hK hP 0 rfl rfl 2 (by decide) (by decide +kernel) rfl dX8_goOneStep_1 ?_
  refine b_get (v := .ref aPlaces) S iX1 hK hP 1 rfl rfl 6 (by decide) (by decide +kernel) rfl dX8_goOneStep_4 ?_
  refine lv_iload_n S.1 S.2.1 dX8_goOneStep_7 rfl (lv_at hl 1 rfl) ?_
  have hin_1 : vp_in a 6 := (in_of (n := 6) (by  omega) (by  omega))
  refine va_iald S.1 S.2.1 hK.1 hP 3 0 rfl rfl hin_1 dX8_goOneStep_8 ?_
  refine lv_topi (fun x_2 ex_2 => ?_)
  have tx_2 := rng_get (x := x_2) (show rng fl 6 (0) (79) by assumption) hin_1 ex_2
  have plx_2 : x_2.toInt = (gg (96 + 4 * a.toInt.toNat)) := by rw [ex_2]; exact (hd_ a.toInt.toNat (by first | (and_intros <;> first | with_reducible assumption | (refine Int.le_antisymm ?_ ?_ <;> omega) | omega) | omega)).1
  refine lv_bipush (v := (8)) S.1 S.2.1 dX8_goOneStep_9 (by decide) ?_
  refine lv_imul S.1 S.2.1 dX8_goOneStep_11 ?_
  refine lv_topi (fun x_3 ex_3 => ?_)
  have tx_3 : x_3.toInt = x_2.toInt * 8 := mulI (A := x_2.toInt) (B := 8) ex_3 rfl rfl (by  omega) (by  omega)
  refine lv_iload_n S.1 S.2.1 dX8_goOneStep_12 rfl (lv_at hl 2 rfl) ?_
  refine lv_bipush (v := (8)) S.1 S.2.1 dX8_goOneStep_13 (by decide) ?_
  refine lv_irem S.1 S.2.1 dX8_goOneStep_15 (by decide) ?_
  refine lv_topi (fun x_4 ex_4 => ?_)
  have tx_4 : x_4.toInt = co.toInt % 8 := remI (A := co.toInt) (B := 8) ex_4 rfl rfl (by  omega) (by decide)
  refine lv_iadd S.1 S.2.1 dX8_goOneStep_16 ?_
  refine lv_topi (fun x_5 ex_5 => ?_)
  have tx_5 : x_5.toInt = x_3.toInt + (x_4.toInt) := addI (A := x_3.toInt) (B := x_4.toInt) ex_5 rfl rfl (by  omega) (by  omega)
  refine lv_istore_n (lv' := [(3, .int x_5), (0, .ref x), (1, .int a), (2, .int co)]) S.1 S.2.1 dX8_goOneStep_17 rfl hl (by decide) rfl (fun ls hl => ?_)
  refine lv_iload_n S.1 S.2.1 dX8_goOneStep_18 rfl (lv_at hl 3 rfl) ?_
  refine lv_bipush (v := (8)) S.1 S.2.1 dX8_goOneStep_19 (by decide) ?_
  refine lv_icmp_ge (tgt := 33) S.1 S.2.1 dX8_goOneStep_21 (by decide) (fun c_6 => ?_) (fun c_6 => ?_)
  · rw [le2 (a := 8) (b := co) (A := 8) (B := co.toInt) rfl rfl] at c_6
    refine lv_iconst (v := (0)) S.1 S.2.1 dX8_goOneStep_33 (by decide) ?_
    have py_ : ((0 : Int32)).toInt = coG gg a.toInt co.toInt ∧ CXd (gaG gg a.toInt co.toInt) fl fg fd fb := by first | exact pay_N hd_ (by first | (and_intros <;> first | with_reducible assumption | (refine Int.le_antisymm ?_ ?_ <;> omega) | omega) | omega) rfl | exact pay_A (v := x_5) hd_ hv_ (by first | (and_intros <;> first | with_reducible assumption | (refine Int.le_antisymm ?_ ?_ <;> omega) | omega) | omega) (by first | (and_intros <;> first | with_reducible assumption | (refine Int.le_antisymm ?_ ?_ <;> omega) | omega) | omega) (by first | (and_intros <;> first | with_reducible assumption | (refine Int.le_antisymm ?_ ?_ <;> omega) | omega) | omega) (by first | with_reducible assumption | assumption) rfl | exact pay_B (v := x_5) (a := a) rfl hd_ hq_ hv_ (by first | (and_intros <;> first | with_reducible assumption | (refine Int.le_antisymm ?_ ?_ <;> omega) | omega) | omega) (by first | (and_intros <;> first | with_reducible assumption | (refine Int.le_antisymm ?_ ?_ <;> omega) | omega) | omega) (by first | (and_intros <;> first | with_reducible assumption | (refine Int.le_antisymm ?_ ?_ <;> omega) | omega) | omega) (by first | (and_intros <;> first | with_reducible assumption | (refine Int.le_antisymm ?_ ?_ <;> omega) | omega) | omega) (by first | (and_intros <;> first | with_reducible assumption | (refine Int.le_antisymm ?_ ?_ <;> omega) | omega) | omega) rfl (by first | with_reducible assumption | assumption) (by first | with_reducible assumption | assumption) (by first | with_reducible assumption | assumption) (by first | with_reducible assumption | assumption)
    refine lv_istore (lv' := [(4, .int 0), (3, .int x_5), (0, .ref x), (1, .int a), (2, .int co)]) S.1 S.2.1 dX8_goOneStep_34 hl (by decide) rfl (fun ls hl => ?_)
    refine lv_aload_n S.1 S.2.1 dX8_goOneStep_36 rfl (lv_at hl 2 rfl) ?_
    refine b_get (v := .ref vw) S iX8 hK hP 0 rfl rfl 6 (by decide) (by decide +kernel) rfl dX8_goOneStep_37 ?_
    refine b_get (v := .ref vN) S iX6 hK hP 9 rfl rfl 0 (by decide) (by decide +kernel) rfl dX8_goOneStep_40 ?_
    refine lv_iload_n S.1 S.2.1 dX8_goOneStep_43 rfl (lv_at hl 1 rfl) ?_
    have hin_7 : vp_in x_5 640 := (in_of (n := 640) (by  omega) (by  omega))
    refine va_iald S.1 S.2.1 hK.1 hP 10 0 rfl rfl hin_7 dX8_goOneStep_44 ?_
    refine lv_topi (fun x_8 ex_8 => ?_)
    have tx_8 := rng_get (x := x_8) (show rng vn 640 (-1) (79) by assumption) hin_7 ex_8
    have nxx_8 : x_8.toInt = (nxT gg (gg (96 + 4 * a.toInt.toNat)) (co.toInt % 8)) := by rw [ex_8]; exact (VWn_at hv_ (by first | (and_intros <;> first | with_reducible assumption | (refine Int.le_antisymm ?_ ?_ <;> omega) | omega) | omega) (by first | (and_intros <;> first | with_reducible assumption | (refine Int.le_antisymm ?_ ?_ <;> omega) | omega) | omega) (by first | (and_intros <;> first | with_reducible assumption | (refine Int.le_antisymm ?_ ?_ <;> omega) | omega) | omega)).1
    refine lv_iconst (v := (-1)) S.1 S.2.1 dX8_goOneStep_45 (by decide) ?_
    refine lv_icmp_eq (tgt := 67) S.1 S.2.1 dX8_goOneStep_46 (by decide) (fun c_9 => ?_) (fun c_9 => ?_)
    · rw [eq2 (a := x_8) (b := (-1)) (A := x_8.toInt) (B := -1) rfl rfl] at c_9
      have ga3 := gaG_o (g := gg) (p := a.toInt) (co := co.toInt) (j := 3) hgo (by first | (and_intros <;> first | with_reducible assumption | (refine Int.le_antisymm ?_ ?_ <;> omega) | omega) | omega) (by first | (and_intros <;> first | with_reducible assumption | (refine Int.le_antisymm ?_ ?_ <;> omega) | omega) | omega) (by decide)
      have gn3 := gnG_3 (g := (gaG gg a.toInt co.toInt)) (p := a.toInt) (n := (nxT gg (gg (96 + 4 * a.toInt.toNat)) (co.toInt % 8))) (by first | (and_intros <;> first | with_reducible assumption | (refine Int.le_antisymm ?_ ?_ <;> omega) | omega) | omega)
      have pl_ : CXd (gnG (gaG gg a.toInt co.toInt) a.toInt (nxT gg (gg (96 + 4 * a.toInt.toNat)) (co.toInt % 8))) fl fg fd fb := by first | exact CXd_n0 py_.2 (by first | (and_intros <;> first | with_reducible assumption | (refine Int.le_antisymm ?_ ?_ <;> omega) | omega) | omega) | exact CXd_n py_.2 (by first | (and_intros <;> first | with_reducible assumption | (refine Int.le_antisymm ?_ ?_ <;> omega) | omega) | omega) (by first | (and_intros <;> first | with_reducible assumption | (refine Int.le_antisymm ?_ ?_ <;> omega) | omega) | omega) (by first | with_reducible assumption | assumption) rfl (by first | (and_intros <;> first | with_reducible assumption | (refine Int.le_antisymm ?_ ?_ <;> omega) | omega) | omega) (by first | (and_intros <;> first | with_reducible assumption | (refine Int.le_antisymm ?_ ?_ <;> omega) | omega) | omega)
      refine lv_aload_n S.1 S.2.1 dX8_goOneStep_67 rfl (lv_at hl 2 rfl) ?_
      refine b_get (v := .ref ct) S iX8 hK hP 0 rfl rfl 2 (by decide) (by decide +kernel) rfl dX8_goOneStep_68 ?_
      refine b_get (v := .ref aGone) S iX1 hK hP 1 rfl rfl 9 (by decide) (by decide +kernel) rfl dX8_goOneStep_71 ?_
      refine lv_iload_n S.1 S.2.1 dX8_goOneStep_74 rfl (lv_at hl 3 rfl) ?_
      refine lv_dup2_11 S.1 S.2.1 dX8_goOneStep_75 rfl rfl ?_
      have hin_10 : vp_in a 6 := (in_of (n := 6) (by  omega) (by  omega))
      refine va_iald S.1 S.2.1 hK.1 hP 6 0 rfl rfl hin_10 dX8_goOneStep_76 ?_
      refine lv_topi (fun x_11 ex_11 => ?_)
      refine lv_iconst (v := (1)) S.1 S.2.1 dX8_goOneStep_77 (by decide) ?_
      refine lv_iadd S.1 S.2.1 dX8_goOneStep_78 ?_
      refine lv_topi (fun x_12 ex_12 => ?_)
      refine va_iast S.1 S.2.1 hK.1 hP hD hS 6 0 rfl rfl (in_of (n := 6) (by  omega) (by  omega)) dX8_goOneStep_79 (fun H locs hP hD hS => ?_)
      obtain ⟨f_13, hf_13⟩ : ∃ g, (upd fg a.toNatClampNeg (x_12)) = g := ⟨_, rfl⟩
      have hP : va_P D vwCl [(x, .inr (8, [.ref sa, .ref tp, .ref ct, .ref dr, .ref rd, .ref im, .ref vw, .ref vu, .ref wh, .ref mk, .ref ak, .int lt, .int fi])), (ct, .inr (1, [.int cw, .int ch, .int cp, .ref aCells, .ref aPrices, .ref aFree, .ref aPlaces, .ref aHomes, .ref aManners, .ref aGone, .ref aPaid, .ref aBlinks])), (aPrices, .inl (cI, 6, .inl fp)), (aPlaces, .inl (cI, 6, .inl fl)), (aManners, .inl (cI, 6, .inl fm)), (aFree, .inl (cI, 6, .inl ff)), (aGone, .inl (cI, 6, .inl (upd fg a.toNatClampNeg (x_12)))), (aPaid, .inl (cI, 36, .inl fd)), (aBlinks, .inl (cI, 36, .inl fb)), (vw, .inr (6, [.ref vN, .ref vS, .ref vM, .ref vF])), (vN, .inl (cI, 640, .inl vn)), (vM, .inl (cI, 640, .inl vm)), (vF, .inl (cI, 640, .inl vf))] H := hP
      have hD : va_D A [(x, .inr (8, [.ref sa, .ref tp, .ref ct, .ref dr, .ref rd, .ref im, .ref vw, .ref vu, .ref wh, .ref mk, .ref ak, .int lt, .int fi])), (ct, .inr (1, [.int cw, .int ch, .int cp, .ref aCells, .ref aPrices, .ref aFree, .ref aPlaces, .ref aHomes, .ref aManners, .ref aGone, .ref aPaid, .ref aBlinks])), (aPrices, .inl (cI, 6, .inl fp)), (aPlaces, .inl (cI, 6, .inl fl)), (aManners, .inl (cI, 6, .inl fm)), (aFree, .inl (cI, 6, .inl ff)), (aGone, .inl (cI, 6, .inl (upd fg a.toNatClampNeg (x_12)))), (aPaid, .inl (cI, 36, .inl fd)), (aBlinks, .inl (cI, 36, .inl fb)), (vw, .inr (6, [.ref vN, .ref vS, .ref vM, .ref vF])), (vN, .inl (cI, 640, .inl vn)), (vM, .inl (cI, 640, .inl vm)), (vF, .inl (cI, 640, .inl vf))] := hD
      rw [hf_13] at hP hD
      refine lv_iload S.1 S.2.1 dX8_goOneStep_80 (lv_at hl 0 rfl) ?_
      have lq0 : Int32.toInt (0) = 0 := by decide
      exact b_iret S.1 S.2.1 X.2.1 X.2.2.1 hP hD hS ⟨fl, f_13, fd, fb, (by first | with_reducible assumption | assumption | omega | decide | (rw [show Int32.toInt 0 = 0 from rfl]; omega)), py_.1, (CXd_s pl_ (by first | (and_intros <;> first | with_reducible assumption | (refine Int.le_antisymm ?_ ?_ <;> omega) | omega) | omega) (by first | (and_intros <;> first | with_reducible assumption | (refine Int.le_antisymm ?_ ?_ <;> omega) | omega) | omega) (by first | with_reducible assumption | assumption) (by first | with_reducible assumption | assumption) (by first | with_reducible assumption | assumption) rfl), rfl⟩ dX8_goOneStep_82
    · rw [eq2 (a := x_8) (b := (-1)) (A := x_8.toInt) (B := -1) rfl rfl] at c_9
      refine lv_aload_n S.1 S.2.1 dX8_goOneStep_49 rfl (lv_at hl 2 rfl) ?_
      refine b_get (v := .ref ct) S iX8 hK hP 0 rfl rfl 2 (by decide) (by decide +kernel) rfl dX8_goOneStep_50 ?_
      refine b_get (v := .ref aPlaces) S iX1 hK hP 1 rfl rfl 6 (by decide) (by decide +kernel) rfl dX8_goOneStep_53 ?_
      refine lv_iload_n S.1 S.2.1 dX8_goOneStep_56 rfl (lv_at hl 3 rfl) ?_
      refine lv_aload_n S.1 S.2.1 dX8_goOneStep_57 rfl (lv_at hl 2 rfl) ?_
      refine b_get (v := .ref vw) S iX8 hK hP 0 rfl rfl 6 (by decide) (by decide +kernel) rfl dX8_goOneStep_58 ?_
      refine b_get (v := .ref vN) S iX6 hK hP 9 rfl rfl 0 (by decide) (by decide +kernel) rfl dX8_goOneStep_61 ?_
      refine lv_iload_n S.1 S.2.1 dX8_goOneStep_64 rfl (lv_at hl 1 rfl) ?_
      have hin_14 : vp_in x_5 640 := (in_of (n := 640) (by  omega) (by  omega))
      refine va_iald S.1 S.2.1 hK.1 hP 10 0 rfl rfl hin_14 dX8_goOneStep_65 ?_
      refine lv_topi (fun x_15 ex_15 => ?_)
      have tx_15 := rng_get (x := x_15) (show rng vn 640 (-1) (79) by assumption) hin_14 ex_15
      have nxx_15 : x_15.toInt = (nxT gg (gg (96 + 4 * a.toInt.toNat)) (co.toInt % 8)) := by rw [ex_15]; exact (VWn_at hv_ (by first | (and_intros <;> first | with_reducible assumption | (refine Int.le_antisymm ?_ ?_ <;> omega) | omega) | omega) (by first | (and_intros <;> first | with_reducible assumption | (refine Int.le_antisymm ?_ ?_ <;> omega) | omega) | omega) (by first | (and_intros <;> first | with_reducible assumption | (refine Int.le_antisymm ?_ ?_ <;> omega) | omega) | omega)).1
      have lx_15 : x_15.toInt = x_8.toInt := by rw [ex_15, ex_8]
      refine va_iast S.1 S.2.1 hK.1 hP hD hS 3 0 rfl rfl (in_of (n := 6) (by  omega) (by  omega)) dX8_goOneStep_66 (fun H locs hP hD hS => ?_)
      obtain ⟨f_16, hf_16, rf_16⟩ : ∃ g, (upd fl a.toNatClampNeg (x_15)) = g ∧ rng g 6 (0) (79) := ⟨_, rfl, rng_upd (by first | with_reducible assumption | assumption) (show (0 : Int) ≤ (x_15 : Int32).toInt ∧ (x_15 : Int32).toInt ≤ 79 from by omega)⟩
      have hP : va_P D vwCl [(x, .inr (8, [.ref sa, .ref tp, .ref ct, .ref dr, .ref rd, .ref im, .ref vw, .ref vu, .ref wh, .ref mk, .ref ak, .int lt, .int fi])), (ct, .inr (1, [.int cw, .int ch, .int cp, .ref aCells, .ref aPrices, .ref aFree, .ref aPlaces, .ref aHomes, .ref aManners, .ref aGone, .ref aPaid, .ref aBlinks])), (aPrices, .inl (cI, 6, .inl fp)), (aPlaces, .inl (cI, 6, .inl (upd fl a.toNatClampNeg (x_15)))), (aManners, .inl (cI, 6, .inl fm)), (aFree, .inl (cI, 6, .inl ff)), (aGone, .inl (cI, 6, .inl fg)), (aPaid, .inl (cI, 36, .inl fd)), (aBlinks, .inl (cI, 36, .inl fb)), (vw, .inr (6, [.ref vN, .ref vS, .ref vM, .ref vF])), (vN, .inl (cI, 640, .inl vn)), (vM, .inl (cI, 640, .inl vm)), (vF, .inl (cI, 640, .inl vf))] H := hP
      have hD : va_D A [(x, .inr (8, [.ref sa, .ref tp, .ref ct, .ref dr, .ref rd, .ref im, .ref vw, .ref vu, .ref wh, .ref mk, .ref ak, .int lt, .int fi])), (ct, .inr (1, [.int cw, .int ch, .int cp, .ref aCells, .ref aPrices, .ref aFree, .ref aPlaces, .ref aHomes, .ref aManners, .ref aGone, .ref aPaid, .ref aBlinks])), (aPrices, .inl (cI, 6, .inl fp)), (aPlaces, .inl (cI, 6, .inl (upd fl a.toNatClampNeg (x_15)))), (aManners, .inl (cI, 6, .inl fm)), (aFree, .inl (cI, 6, .inl ff)), (aGone, .inl (cI, 6, .inl fg)), (aPaid, .inl (cI, 36, .inl fd)), (aBlinks, .inl (cI, 36, .inl fb)), (vw, .inr (6, [.ref vN, .ref vS, .ref vM, .ref vF])), (vN, .inl (cI, 640, .inl vn)), (vM, .inl (cI, 640, .inl vm)), (vF, .inl (cI, 640, .inl vf))] := hD
      rw [hf_16] at hP hD
      have ga3 := gaG_o (g := gg) (p := a.toInt) (co := co.toInt) (j := 3) hgo (by first | (and_intros <;> first | with_reducible assumption | (refine Int.le_antisymm ?_ ?_ <;> omega) | omega) | omega) (by first | (and_intros <;> first | with_reducible assumption | (refine Int.le_antisymm ?_ ?_ <;> omega) | omega) | omega) (by decide)
      have gn3 := gnG_3 (g := (gaG gg a.toInt co.toInt)) (p := a.toInt) (n := (nxT gg (gg (96 + 4 * a.toInt.toNat)) (co.toInt % 8))) (by first | (and_intros <;> first | with_reducible assumption | (refine Int.le_antisymm ?_ ?_ <;> omega) | omega) | omega)
      have pl_ : CXd (gnG (gaG gg a.toInt co.toInt) a.toInt (nxT gg (gg (96 + 4 * a.toInt.toNat)) (co.toInt % 8))) f_16 fg fd fb := by first | exact CXd_n0 py_.2 (by first | (and_intros <;> first | with_reducible assumption | (refine Int.le_antisymm ?_ ?_ <;> omega) | omega) | omega) | exact CXd_n py_.2 (by first | (and_intros <;> first | with_reducible assumption | (refine Int.le_antisymm ?_ ?_ <;> omega) | omega) | omega) (by first | (and_intros <;> first | with_reducible assumption | (refine Int.le_antisymm ?_ ?_ <;> omega) | omega) | omega) (by first | with_reducible assumption | assumption) rfl (by first | (and_intros <;> first | with_reducible assumption | (refine Int.le_antisymm ?_ ?_ <;> omega) | omega) | omega) (by first | (and_intros <;> first | with_reducible assumption | (refine Int.le_antisymm ?_ ?_ <;> omega) | omega) | omega)
      refine lv_aload_n S.1 S.2.1 dX8_goOneStep_67 rfl (lv_at hl 2 rfl) ?_
      refine b_get (v := .ref ct) S iX8 hK hP 0 rfl rfl 2 (by decide) (by decide +kernel) rfl dX8_goOneStep_68 ?_
      refine b_get (v := .ref aGone) S iX1 hK hP 1 rfl rfl 9 (by decide) (by decide +kernel) rfl dX8_goOneStep_71 ?_
      refine lv_iload_n S.1 S.2.1 dX8_goOneStep_74 rfl (lv_at hl 3 rfl) ?_
      refine lv_dup2_11 S.1 S.2.1 dX8_goOneStep_75 rfl rfl ?_
      have hin_17 : vp_in a 6 := (in_of (n := 6) (by  omega) (by  omega))
      refine va_iald S.1 S.2.1 hK.1 hP 6 0 rfl rfl hin_17 dX8_goOneStep_76 ?_
      refine lv_topi (fun x_18 ex_18 => ?_)
      refine lv_iconst (v := (1)) S.1 S.2.1 dX8_goOneStep_77 (by decide) ?_
      refine lv_iadd S.1 S.2.1 dX8_goOneStep_78 ?_
      refine lv_topi (fun x_19 ex_19 => ?_)
      refine va_iast S.1 S.2.1 hK.1 hP hD hS 6 0 rfl rfl (in_of (n := 6) (by  omega) (by  omega)) dX8_goOneStep_79 (fun H locs hP hD hS => ?_)
      obtain ⟨f_20, hf_20⟩ : ∃ g, (upd fg a.toNatClampNeg (x_19)) = g := ⟨_, rfl⟩
      have hP : va_P D vwCl [(x, .inr (8, [.ref sa, .ref tp, .ref ct, .ref dr, .ref rd, .ref im, .ref vw, .ref vu, .ref wh, .ref mk, .ref ak, .int lt, .int fi])), (ct, .inr (1, [.int cw, .int ch, .int cp, .ref aCells, .ref aPrices, .ref aFree, .ref aPlaces, .ref aHomes, .ref aManners, .ref aGone, .ref aPaid, .ref aBlinks])), (aPrices, .inl (cI, 6, .inl fp)), (aPlaces, .inl (cI, 6, .inl f_16)), (aManners, .inl (cI, 6, .inl fm)), (aFree, .inl (cI, 6, .inl ff)), (aGone, .inl (cI, 6, .inl (upd fg a.toNatClampNeg (x_19)))), (aPaid, .inl (cI, 36, .inl fd)), (aBlinks, .inl (cI, 36, .inl fb)), (vw, .inr (6, [.ref vN, .ref vS, .ref vM, .ref vF])), (vN, .inl (cI, 640, .inl vn)), (vM, .inl (cI, 640, .inl vm)), (vF, .inl (cI, 640, .inl vf))] H := hP
      have hD : va_D A [(x, .inr (8, [.ref sa, .ref tp, .ref ct, .ref dr, .ref rd, .ref im, .ref vw, .ref vu, .ref wh, .ref mk, .ref ak, .int lt, .int fi])), (ct, .inr (1, [.int cw, .int ch, .int cp, .ref aCells, .ref aPrices, .ref aFree, .ref aPlaces, .ref aHomes, .ref aManners, .ref aGone, .ref aPaid, .ref aBlinks])), (aPrices, .inl (cI, 6, .inl fp)), (aPlaces, .inl (cI, 6, .inl f_16)), (aManners, .inl (cI, 6, .inl fm)), (aFree, .inl (cI, 6, .inl ff)), (aGone, .inl (cI, 6, .inl (upd fg a.toNatClampNeg (x_19)))), (aPaid, .inl (cI, 36, .inl fd)), (aBlinks, .inl (cI, 36, .inl fb)), (vw, .inr (6, [.ref vN, .ref vS, .ref vM, .ref vF])), (vN, .inl (cI, 640, .inl vn)), (vM, .inl (cI, 640, .inl vm)), (vF, .inl (cI, 640, .inl vf))] := hD
      rw [hf_20] at hP hD
      refine lv_iload S.1 S.2.1 dX8_goOneStep_80 (lv_at hl 0 rfl) ?_
      have lq0 : Int32.toInt (0) = 0 := by decide
      exact b_iret S.1 S.2.1 X.2.1 X.2.2.1 hP hD hS ⟨f_16, f_20, fd, fb, (by first | with_reducible assumption | assumption | omega | decide | (rw [show Int32.toInt 0 = 0 from rfl]; omega)), py_.1, (CXd_s pl_ (by first | (and_intros <;> first | with_reducible assumption | (refine Int.le_antisymm ?_ ?_ <;> omega) | omega) | omega) (by first | (and_intros <;> first | with_reducible assumption | (refine Int.le_antisymm ?_ ?_ <;> omega) | omega) | omega) (by first | with_reducible assumption | assumption) (by first | with_reducible assumption | assumption) (by first | with_reducible assumption | assumption) rfl), rfl⟩ dX8_goOneStep_82
  · rw [le2 (a := 8) (b := co) (A := 8) (B := co.toInt) rfl rfl] at c_6
    refine lv_aload_n S.1 S.2.1 dX8_goOneStep_24 rfl (lv_at hl 1 rfl) ?_
    refine lv_iload_n S.1 S.2.1 dX8_goOneStep_25 rfl (lv_at hl 2 rfl) ?_
    refine lv_iload_n S.1 S.2.1 dX8_goOneStep_26 rfl (lv_at hl 0 rfl) ?_
    refine b_ai (wr := [(aPlaces, .inl (cI, 6, .inl fl)), (aGone, .inl (cI, 6, .inl fg)), (vN, .inl (cI, 640, .inl vn))]) (b_runV (q0 := 0) (ci := 8) (As := [.int a, .int x_5]) (s_X8_lookAndPay l D cI cZ cC cS sq H.size x ct aPrices aManners aFree aPaid aBlinks vw vM vF a x_5 sa tp dr rd im vu wh mk ak lt fi cw ch cp aCells aPlaces aHomes aGone fp fm ff fd fb vN vS vm vf (by first | with_reducible assumption | assumption | omega | decide | (rw [show Int32.toInt 0 = 0 from rfl]; omega)) (by first | with_reducible assumption | assumption | omega | decide | (rw [show Int32.toInt 0 = 0 from rfl]; omega)) (by first | with_reducible assumption | decide | (and_intros <;> first | with_reducible assumption | (intros; refine Int.le_antisymm ?_ ?_ <;> omega) | omega) | assumption | (rw [show Int32.toInt 0 = 0 from rfl]; omega)) (by first | with_reducible assumption | decide | (and_intros <;> first | with_reducible assumption | (intros; refine Int.le_antisymm ?_ ?_ <;> omega) | omega) | assumption | (rw [show Int32.toInt 0 = 0 from rfl]; omega)) (by first | with_reducible assumption | assumption | omega | decide | (rw [show Int32.toInt 0 = 0 from rfl]; omega))) S gX8_goOneStep_X8_lookAndPay rfl hdV_X8_lookAndPay ⟨Nat.le_of_ble_eq_true rfl, Nat.le_of_ble_eq_true rfl⟩ ⟨Nat.le_of_ble_eq_true rfl, Nat.le_of_ble_eq_true rfl⟩ hK hT hS hA hP hD rfl rfl [0, 1, 2, 4, 5, 7, 8, 9, 11, 12] rfl (by decide) rfl hl.1 rfl (Nat.le_of_ble_eq_true rfl) dX8_goOneStep_27) hP hD hS hA [0, 1, 2, 4, 5, 7, 8, 9, 11, 12] [3, 6, 10] rfl rfl (by decide) (by decide) (fun r_21 w_22 H locs hw_23 hP hD hS => ?_)
    rcases hw_23 with ⟨hf_24, rfl, rfl⟩ | ⟨fd2_25, fb2_26, hf_27, hf_28, hf_29, hf_30, rfl⟩
    · have hP : va_P D vwCl [(aPlaces, .inl (cI, 6, .inl fl)), (aGone, .inl (cI, 6, .inl fg)), (vN, .inl (cI, 640, .inl vn)), (x, .inr (8, [.ref sa, .ref tp, .ref ct, .ref dr, .ref rd, .ref im, .ref vw, .ref vu, .ref wh, .ref mk, .ref ak, .int lt, .int fi])), (ct, .inr (1, [.int cw, .int ch, .int cp, .ref aCells, .ref aPrices, .ref aFree, .ref aPlaces, .ref aHomes, .ref aManners, .ref aGone, .ref aPaid, .ref aBlinks])), (aPrices, .inl (cI, 6, .inl fp)), (aManners, .inl (cI, 6, .inl fm)), (aFree, .inl (cI, 6, .inl ff)), (aPaid, .inl (cI, 36, .inl fd)), (aBlinks, .inl (cI, 36, .inl fb)), (vw, .inr (6, [.ref vN, .ref vS, .ref vM, .ref vF])), (vM, .inl (cI, 640, .inl vm)), (vF, .inl (cI, 640, .inl vf))] H := hP
      have hD : va_D A [(aPlaces, .inl (cI, 6, .inl fl)), (aGone, .inl (cI, 6, .inl fg)), (vN, .inl (cI, 640, .inl vn)), (x, .inr (8, [.ref sa, .ref tp, .ref ct, .ref dr, .ref rd, .ref im, .ref vw, .ref vu, .ref wh, .ref mk, .ref ak, .int lt, .int fi])), (ct, .inr (1, [.int cw, .int ch, .int cp, .ref aCells, .ref aPrices, .ref aFree, .ref aPlaces, .ref aHomes, .ref aManners, .ref aGone, .ref aPaid, .ref aBlinks])), (aPrices, .inl (cI, 6, .inl fp)), (aManners, .inl (cI, 6, .inl fm)), (aFree, .inl (cI, 6, .inl ff)), (aPaid, .inl (cI, 36, .inl fd)), (aBlinks, .inl (cI, 36, .inl fb)), (vw, .inr (6, [.ref vN, .ref vS, .ref vM, .ref vF])), (vM, .inl (cI, 640, .inl vm)), (vF, .inl (cI, 640, .inl vf))] := hD
      refine lv_goto (tgt := 34) S.1 S.2.1 dX8_goOneStep_30 (by decide) ?_
      have py_ : ((0 : Int32)).toInt = coG gg a.toInt co.toInt ∧ CXd (gaG gg a.toInt co.toInt) fl fg fd fb := by first | exact pay_N hd_ (by first | (and_intros <;> first | with_reducible assumption | (refine Int.le_antisymm ?_ ?_ <;> omega) | omega) | omega) rfl | exact pay_A (v := x_5) hd_ hv_ (by first | (and_intros <;> first | with_reducible assumption | (refine Int.le_antisymm ?_ ?_ <;> omega) | omega) | omega) (by first | (and_intros <;> first | with_reducible assumption | (refine Int.le_antisymm ?_ ?_ <;> omega) | omega) | omega) (by first | (and_intros <;> first | with_reducible assumption | (refine Int.le_antisymm ?_ ?_ <;> omega) | omega) | omega) (by first | with_reducible assumption | assumption) rfl | exact pay_B (v := x_5) (a := a) rfl hd_ hq_ hv_ (by first | (and_intros <;> first | with_reducible assumption | (refine Int.le_antisymm ?_ ?_ <;> omega) | omega) | omega) (by first | (and_intros <;> first | with_reducible assumption | (refine Int.le_antisymm ?_ ?_ <;> omega) | omega) | omega) (by first | (and_intros <;> first | with_reducible assumption | (refine Int.le_antisymm ?_ ?_ <;> omega) | omega) | omega) (by first | (and_intros <;> first | with_reducible assumption | (refine Int.le_antisymm ?_ ?_ <;> omega) | omega) | omega) (by first | (and_intros <;> first | with_reducible assumption | (refine Int.le_antisymm ?_ ?_ <;> omega) | omega) | omega) rfl (by first | with_reducible assumption | assumption) (by first | with_reducible assumption | assumption) (by first | with_reducible assumption | assumption) (by first | with_reducible assumption | assumption)
      refine lv_istore (lv' := [(4, .int 0), (3, .int x_5), (0, .ref x), (1, .int a), (2, .int co)]) S.1 S.2.1 dX8_goOneStep_34 hl (by decide) rfl (fun ls hl => ?_)
      refine lv_aload_n S.1 S.2.1 dX8_goOneStep_36 rfl (lv_at hl 2 rfl) ?_
      refine b_get (v := .ref vw) S iX8 hK hP 3 rfl rfl 6 (by decide) (by decide +kernel) rfl dX8_goOneStep_37 ?_
      refine b_get (v := .ref vN) S iX6 hK hP 10 rfl rfl 0 (by decide) (by decide +kernel) rfl dX8_goOneStep_40 ?_
      refine lv_iload_n S.1 S.2.1 dX8_goOneStep_43 rfl (lv_at hl 1 rfl) ?_
      have hin_31 : vp_in x_5 640 := (in_of (n := 640) (by  omega) (by  omega))
      refine va_iald S.1 S.2.1 hK.1 hP 2 0 rfl rfl hin_31 dX8_goOneStep_44 ?_
      refine lv_topi (fun x_32 ex_32 => ?_)
      have tx_32 := rng_get (x := x_32) (show rng vn 640 (-1) (79) by assumption) hin_31 ex_32
      have nxx_32 : x_32.toInt = (nxT gg (gg (96 + 4 * a.toInt.toNat)) (co.toInt % 8)) := by rw [ex_32]; exact (VWn_at hv_ (by first | (and_intros <;> first | with_reducible assumption | (refine Int.le_antisymm ?_ ?_ <;> omega) | omega) | omega) (by first | (and_intros <;> first | with_reducible assumption | (refine Int.le_antisymm ?_ ?_ <;> omega) | omega) | omega) (by first | (and_intros <;> first | with_reducible assumption | (refine Int.le_antisymm ?_ ?_ <;> omega) | omega) | omega)).1
      refine lv_iconst (v := (-1)) S.1 S.2.1 dX8_goOneStep_45 (by decide) ?_
      refine lv_icmp_eq (tgt := 67) S.1 S.2.1 dX8_goOneStep_46 (by decide) (fun c_33 => ?_) (fun c_33 => ?_)
      · rw [eq2 (a := x_32) (b := (-1)) (A := x_32.toInt) (B := -1) rfl rfl] at c_33
        have ga3 := gaG_o (g := gg) (p := a.toInt) (co := co.toInt) (j := 3) hgo (by first | (and_intros <;> first | with_reducible assumption | (refine Int.le_antisymm ?_ ?_ <;> omega) | omega) | omega) (by first | (and_intros <;> first | with_reducible assumption | (refine Int.le_antisymm ?_ ?_ <;> omega) | omega) | omega) (by decide)
        have gn3 := gnG_3 (g := (gaG gg a.toInt co.toInt)) (p := a.toInt) (n := (nxT gg (gg (96 + 4 * a.toInt.toNat)) (co.toInt % 8))) (by first | (and_intros <;> first | with_reducible assumption | (refine Int.le_antisymm ?_ ?_ <;> omega) | omega) | omega)
        have pl_ : CXd (gnG (gaG gg a.toInt co.toInt) a.toInt (nxT gg (gg (96 + 4 * a.toInt.toNat)) (co.toInt % 8))) fl fg fd fb := by first | exact CXd_n0 py_.2 (by first | (and_intros <;> first | with_reducible assumption | (refine Int.le_antisymm ?_ ?_ <;> omega) | omega) | omega) | exact CXd_n py_.2 (by first | (and_intros <;> first | with_reducible assumption | (refine Int.le_antisymm ?_ ?_ <;> omega) | omega) | omega) (by first | (and_intros <;> first | with_reducible assumption | (refine Int.le_antisymm ?_ ?_ <;> omega) | omega) | omega) (by first | with_reducible assumption | assumption) rfl (by first | (and_intros <;> first | with_reducible assumption | (refine Int.le_antisymm ?_ ?_ <;> omega) | omega) | omega) (by first | (and_intros <;> first | with_reducible assumption | (refine Int.le_antisymm ?_ ?_ <;> omega) | omega) | omega)
        refine lv_aload_n S.1 S.2.1 dX8_goOneStep_67 rfl (lv_at hl 2 rfl) ?_
        refine b_get (v := .ref ct) S iX8 hK hP 3 rfl rfl 2 (by decide) (by decide +kernel) rfl dX8_goOneStep_68 ?_
        refine b_get (v := .ref aGone) S iX1 hK hP 4 rfl rfl 9 (by decide) (by decide +kernel) rfl dX8_goOneStep_71 ?_
        refine lv_iload_n S.1 S.2.1 dX8_goOneStep_74 rfl (lv_at hl 3 rfl) ?_
        refine lv_dup2_11 S.1 S.2.1 dX8_goOneStep_75 rfl rfl ?_
        have hin_34 : vp_in a 6 := (in_of (n := 6) (by  omega) (by  omega))
        refine va_iald S.1 S.2.1 hK.1 hP 1 0 rfl rfl hin_34 dX8_goOneStep_76 ?_
        refine lv_topi (fun x_35 ex_35 => ?_)
        refine lv_iconst (v := (1)) S.1 S.2.1 dX8_goOneStep_77 (by decide) ?_
        refine lv_iadd S.1 S.2.1 dX8_goOneStep_78 ?_
        refine lv_topi (fun x_36 ex_36 => ?_)
        refine va_iast S.1 S.2.1 hK.1 hP hD hS 1 0 rfl rfl (in_of (n := 6) (by  omega) (by  omega)) dX8_goOneStep_79 (fun H locs hP hD hS => ?_)
        obtain ⟨f_37, hf_37⟩ : ∃ g, (upd fg a.toNatClampNeg (x_36)) = g := ⟨_, rfl⟩
        have hP : va_P D vwCl [(aPlaces, .inl (cI, 6, .inl fl)), (aGone, .inl (cI, 6, .inl (upd fg a.toNatClampNeg (x_36)))), (vN, .inl (cI, 640, .inl vn)), (x, .inr (8, [.ref sa, .ref tp, .ref ct, .ref dr, .ref rd, .ref im, .ref vw, .ref vu, .ref wh, .ref mk, .ref ak, .int lt, .int fi])), (ct, .inr (1, [.int cw, .int ch, .int cp, .ref aCells, .ref aPrices, .ref aFree, .ref aPlaces, .ref aHomes, .ref aManners, .ref aGone, .ref aPaid, .ref aBlinks])), (aPrices, .inl (cI, 6, .inl fp)), (aManners, .inl (cI, 6, .inl fm)), (aFree, .inl (cI, 6, .inl ff)), (aPaid, .inl (cI, 36, .inl fd)), (aBlinks, .inl (cI, 36, .inl fb)), (vw, .inr (6, [.ref vN, .ref vS, .ref vM, .ref vF])), (vM, .inl (cI, 640, .inl vm)), (vF, .inl (cI, 640, .inl vf))] H := hP
        have hD : va_D A [(aPlaces, .inl (cI, 6, .inl fl)), (aGone, .inl (cI, 6, .inl (upd fg a.toNatClampNeg (x_36)))), (vN, .inl (cI, 640, .inl vn)), (x, .inr (8, [.ref sa, .ref tp, .ref ct, .ref dr, .ref rd, .ref im, .ref vw, .ref vu, .ref wh, .ref mk, .ref ak, .int lt, .int fi])), (ct, .inr (1, [.int cw, .int ch, .int cp, .ref aCells, .ref aPrices, .ref aFree, .ref aPlaces, .ref aHomes, .ref aManners, .ref aGone, .ref aPaid, .ref aBlinks])), (aPrices, .inl (cI, 6, .inl fp)), (aManners, .inl (cI, 6, .inl fm)), (aFree, .inl (cI, 6, .inl ff)), (aPaid, .inl (cI, 36, .inl fd)), (aBlinks, .inl (cI, 36, .inl fb)), (vw, .inr (6, [.ref vN, .ref vS, .ref vM, .ref vF])), (vM, .inl (cI, 640, .inl vm)), (vF, .inl (cI, 640, .inl vf))] := hD
        rw [hf_37] at hP hD
        refine lv_iload S.1 S.2.1 dX8_goOneStep_80 (lv_at hl 0 rfl) ?_
        have hP := hP.sub (ws' := [(x, .inr (8, [.ref sa, .ref tp, .ref ct, .ref dr, .ref rd, .ref im, .ref vw, .ref vu, .ref wh, .ref mk, .ref ak, .int lt, .int fi])), (ct, .inr (1, [.int cw, .int ch, .int cp, .ref aCells, .ref aPrices, .ref aFree, .ref aPlaces, .ref aHomes, .ref aManners, .ref aGone, .ref aPaid, .ref aBlinks])), (aPrices, .inl (cI, 6, .inl fp)), (aPlaces, .inl (cI, 6, .inl fl)), (aManners, .inl (cI, 6, .inl fm)), (aFree, .inl (cI, 6, .inl ff)), (aGone, .inl (cI, 6, .inl f_37)), (aPaid, .inl (cI, 36, .inl fd)), (aBlinks, .inl (cI, 36, .inl fb)), (vw, .inr (6, [.ref vN, .ref vS, .ref vM, .ref vF])), (vN, .inl (cI, 640, .inl vn)), (vM, .inl (cI, 640, .inl vm)), (vF, .inl (cI, 640, .inl vf))]) [3, 4, 5, 0, 6, 7, 1, 8, 9, 10, 2, 11, 12] rfl
        have hD := hD.sub (ws' := [(x, .inr (8, [.ref sa, .ref tp, .ref ct, .ref dr, .ref rd, .ref im, .ref vw, .ref vu, .ref wh, .ref mk, .ref ak, .int lt, .int fi])), (ct, .inr (1, [.int cw, .int ch, .int cp, .ref aCells, .ref aPrices, .ref aFree, .ref aPlaces, .ref aHomes, .ref aManners, .ref aGone, .ref aPaid, .ref aBlinks])), (aPrices, .inl (cI, 6, .inl fp)), (aPlaces, .inl (cI, 6, .inl fl)), (aManners, .inl (cI, 6, .inl fm)), (aFree, .inl (cI, 6, .inl ff)), (aGone, .inl (cI, 6, .inl f_37)), (aPaid, .inl (cI, 36, .inl fd)), (aBlinks, .inl (cI, 36, .inl fb)), (vw, .inr (6, [.ref vN, .ref vS, .ref vM, .ref vF])), (vN, .inl (cI, 640, .inl vn)), (vM, .inl (cI, 640, .inl vm)), (vF, .inl (cI, 640, .inl vf))]) [3, 4, 5, 0, 6, 7, 1, 8, 9, 10, 2, 11, 12] (by decide) rfl
        have lq0 : Int32.toInt (0) = 0 := by decide
        exact b_iret S.1 S.2.1 X.2.1 X.2.2.1 hP hD hS ⟨fl, f_37, fd, fb, (by first | with_reducible assumption | assumption | omega | decide | (rw [show Int32.toInt 0 = 0 from rfl]; omega)), py_.1, (CXd_s pl_ (by first | (and_intros <;> first | with_reducible assumption | (refine Int.le_antisymm ?_ ?_ <;> omega) | omega) | omega) (by first | (and_intros <;> first | with_reducible assumption | (refine Int.le_antisymm ?_ ?_ <;> omega) | omega) | omega) (by first | with_reducible assumption | assumption) (by first | with_reducible assumption | assumption) (by first | with_reducible assumption | assumption) rfl), rfl⟩ dX8_goOneStep_82
      · rw [eq2 (a := x_32) (b := (-1)) (A := x_32.toInt) (B := -1) rfl rfl] at c_33
        refine lv_aload_n S.1 S.2.1 dX8_goOneStep_49 rfl (lv_at hl 2 rfl) ?_
        refine b_get (v := .ref ct) S iX8 hK hP 3 rfl rfl 2 (by decide) (by decide +kernel) rfl dX8_goOneStep_50 ?_
        refine b_get (v := .ref aPlaces) S iX1 hK hP 4 rfl rfl 6 (by decide) (by decide +kernel) rfl dX8_goOneStep_53 ?_
        refine lv_iload_n S.1 S.2.1 dX8_goOneStep_56 rfl (lv_at hl 3 rfl) ?_
        refine lv_aload_n S.1 S.2.1 dX8_goOneStep_57 rfl (lv_at hl 2 rfl) ?_
        refine b_get (v := .ref vw) S iX8 hK hP 3 rfl rfl 6 (by decide) (by decide +kernel) rfl dX8_goOneStep_58 ?_
        refine b_get (v := .ref vN) S iX6 hK hP 10 rfl rfl 0 (by decide) (by decide +kernel) rfl dX8_goOneStep_61 ?_
        refine lv_iload_n S.1 S.2.1 dX8_goOneStep_64 rfl (lv_at hl 1 rfl) ?_
        have hin_38 : vp_in x_5 640 := (in_of (n := 640) (by  omega) (by  omega))
        refine va_iald S.1 S.2.1 hK.1 hP 2 0 rfl rfl hin_38 dX8_goOneStep_65 ?_
        refine lv_topi (fun x_39 ex_39 => ?_)
        have tx_39 := rng_get (x := x_39) (show rng vn 640 (-1) (79) by assumption) hin_38 ex_39
        have nxx_39 : x_39.toInt = (nxT gg (gg (96 + 4 * a.toInt.toNat)) (co.toInt % 8)) := by rw [ex_39]; exact (VWn_at hv_ (by first | (and_intros <;> first | with_reducible assumption | (refine Int.le_antisymm ?_ ?_ <;> omega) | omega) | omega) (by first | (and_intros <;> first | with_reducible assumption | (refine Int.le_antisymm ?_ ?_ <;> omega) | omega) | omega) (by first | (and_intros <;> first | with_reducible assumption | (refine Int.le_antisymm ?_ ?_ <;> omega) | omega) | omega)).1
        have lx_39 : x_39.toInt = x_32.toInt := by rw [ex_39, ex_32]
        refine va_iast S.1 S.2.1 hK.1 hP hD hS 0 0 rfl rfl (in_of (n := 6) (by  omega) (by  omega)) dX8_goOneStep_66 (fun H locs hP hD hS => ?_)
        obtain ⟨f_40, hf_40, rf_40⟩ : ∃ g, (upd fl a.toNatClampNeg (x_39)) = g ∧ rng g 6 (0) (79) := ⟨_, rfl, rng_upd (by first | with_reducible assumption | assumption) (show (0 : Int) ≤ (x_39 : Int32).toInt ∧ (x_39 : Int32).toInt ≤ 79 from by omega)⟩
        have hP : va_P D vwCl [(aPlaces, .inl (cI, 6, .inl (upd fl a.toNatClampNeg (x_39)))), (aGone, .inl (cI, 6, .inl fg)), (vN, .inl (cI, 640, .inl vn)), (x, .inr (8, [.ref sa, .ref tp, .ref ct, .ref dr, .ref rd, .ref im, .ref vw, .ref vu, .ref wh, .ref mk, .ref ak, .int lt, .int fi])), (ct, .inr (1, [.int cw, .int ch, .int cp, .ref aCells, .ref aPrices, .ref aFree, .ref aPlaces, .ref aHomes, .ref aManners, .ref aGone, .ref aPaid, .ref aBlinks])), (aPrices, .inl (cI, 6, .inl fp)), (aManners, .inl (cI, 6, .inl fm)), (aFree, .inl (cI, 6, .inl ff)), (aPaid, .inl (cI, 36, .inl fd)), (aBlinks, .inl (cI, 36, .inl fb)), (vw, .inr (6, [.ref vN, .ref vS, .ref vM, .ref vF])), (vM, .inl (cI, 640, .inl vm)), (vF, .inl (cI, 640, .inl vf))] H := hP
        have hD : va_D A [(aPlaces, .inl (cI, 6, .inl (upd fl a.toNatClampNeg (x_39)))), (aGone, .inl (cI, 6, .inl fg)), (vN, .inl (cI, 640, .inl vn)), (x, .inr (8, [.ref sa, .ref tp, .ref ct, .ref dr, .ref rd, .ref im, .ref vw, .ref vu, .ref wh, .ref mk, .ref ak, .int lt, .int fi])), (ct, .inr (1, [.int cw, .int ch, .int cp, .ref aCells, .ref aPrices, .ref aFree, .ref aPlaces, .ref aHomes, .ref aManners, .ref aGone, .ref aPaid, .ref aBlinks])), (aPrices, .inl (cI, 6, .inl fp)), (aManners, .inl (cI, 6, .inl fm)), (aFree, .inl (cI, 6, .inl ff)), (aPaid, .inl (cI, 36, .inl fd)), (aBlinks, .inl (cI, 36, .inl fb)), (vw, .inr (6, [.ref vN, .ref vS, .ref vM, .ref vF])), (vM, .inl (cI, 640, .inl vm)), (vF, .inl (cI, 640, .inl vf))] := hD
        rw [hf_40] at hP hD
        have ga3 := gaG_o (g := gg) (p := a.toInt) (co := co.toInt) (j := 3) hgo (by first | (and_intros <;> first | with_reducible assumption | (refine Int.le_antisymm ?_ ?_ <;> omega) | omega) | omega) (by first | (and_intros <;> first | with_reducible assumption | (refine Int.le_antisymm ?_ ?_ <;> omega) | omega) | omega) (by decide)
        have gn3 := gnG_3 (g := (gaG gg a.toInt co.toInt)) (p := a.toInt) (n := (nxT gg (gg (96 + 4 * a.toInt.toNat)) (co.toInt % 8))) (by first | (and_intros <;> first | with_reducible assumption | (refine Int.le_antisymm ?_ ?_ <;> omega) | omega) | omega)
        have pl_ : CXd (gnG (gaG gg a.toInt co.toInt) a.toInt (nxT gg (gg (96 + 4 * a.toInt.toNat)) (co.toInt % 8))) f_40 fg fd fb := by first | exact CXd_n0 py_.2 (by first | (and_intros <;> first | with_reducible assumption | (refine Int.le_antisymm ?_ ?_ <;> omega) | omega) | omega) | exact CXd_n py_.2 (by first | (and_intros <;> first | with_reducible assumption | (refine Int.le_antisymm ?_ ?_ <;> omega) | omega) | omega) (by first | (and_intros <;> first | with_reducible assumption | (refine Int.le_antisymm ?_ ?_ <;> omega) | omega) | omega) (by first | with_reducible assumption | assumption) rfl (by first | (and_intros <;> first | with_reducible assumption | (refine Int.le_antisymm ?_ ?_ <;> omega) | omega) | omega) (by first | (and_intros <;> first | with_reducible assumption | (refine Int.le_antisymm ?_ ?_ <;> omega) | omega) | omega)
        refine lv_aload_n S.1 S.2.1 dX8_goOneStep_67 rfl (lv_at hl 2 rfl) ?_
        refine b_get (v := .ref ct) S iX8 hK hP 3 rfl rfl 2 (by decide) (by decide +kernel) rfl dX8_goOneStep_68 ?_
        refine b_get (v := .ref aGone) S iX1 hK hP 4 rfl rfl 9 (by decide) (by decide +kernel) rfl dX8_goOneStep_71 ?_
        refine lv_iload_n S.1 S.2.1 dX8_goOneStep_74 rfl (lv_at hl 3 rfl) ?_
        refine lv_dup2_11 S.1 S.2.1 dX8_goOneStep_75 rfl rfl ?_
        have hin_41 : vp_in a 6 := (in_of (n := 6) (by  omega) (by  omega))
        refine va_iald S.1 S.2.1 hK.1 hP 1 0 rfl rfl hin_41 dX8_goOneStep_76 ?_
        refine lv_topi (fun x_42 ex_42 => ?_)
        refine lv_iconst (v := (1)) S.1 S.2.1 dX8_goOneStep_77 (by decide) ?_
        refine lv_iadd S.1 S.2.1 dX8_goOneStep_78 ?_
        refine lv_topi (fun x_43 ex_43 => ?_)
        refine va_iast S.1 S.2.1 hK.1 hP hD hS 1 0 rfl rfl (in_of (n := 6) (by  omega) (by  omega)) dX8_goOneStep_79 (fun H locs hP hD hS => ?_)
        obtain ⟨f_44, hf_44⟩ : ∃ g, (upd fg a.toNatClampNeg (x_43)) = g := ⟨_, rfl⟩
        have hP : va_P D vwCl [(aPlaces, .inl (cI, 6, .inl f_40)), (aGone, .inl (cI, 6, .inl (upd fg a.toNatClampNeg (x_43)))), (vN, .inl (cI, 640, .inl vn)), (x, .inr (8, [.ref sa, .ref tp, .ref ct, .ref dr, .ref rd, .ref im, .ref vw, .ref vu, .ref wh, .ref mk, .ref ak, .int lt, .int fi])), (ct, .inr (1, [.int cw, .int ch, .int cp, .ref aCells, .ref aPrices, .ref aFree, .ref aPlaces, .ref aHomes, .ref aManners, .ref aGone, .ref aPaid, .ref aBlinks])), (aPrices, .inl (cI, 6, .inl fp)), (aManners, .inl (cI, 6, .inl fm)), (aFree, .inl (cI, 6, .inl ff)), (aPaid, .inl (cI, 36, .inl fd)), (aBlinks, .inl (cI, 36, .inl fb)), (vw, .inr (6, [.ref vN, .ref vS, .ref vM, .ref vF])), (vM, .inl (cI, 640, .inl vm)), (vF, .inl (cI, 640, .inl vf))] H := hP
        have hD : va_D A [(aPlaces, .inl (cI, 6, .inl f_40)), (aGone, .inl (cI, 6, .inl (upd fg a.toNatClampNeg (x_43)))), (vN, .inl (cI, 640, .inl vn)), (x, .inr (8, [.ref sa, .ref tp, .ref ct, .ref dr, .ref rd, .ref im, .ref vw, .ref vu, .ref wh, .ref mk, .ref ak, .int lt, .int fi])), (ct, .inr (1, [.int cw, .int ch, .int cp, .ref aCells, .ref aPrices, .ref aFree, .ref aPlaces, .ref aHomes, .ref aManners, .ref aGone, .ref aPaid, .ref aBlinks])), (aPrices, .inl (cI, 6, .inl fp)), (aManners, .inl (cI, 6, .inl fm)), (aFree, .inl (cI, 6, .inl ff)), (aPaid, .inl (cI, 36, .inl fd)), (aBlinks, .inl (cI, 36, .inl fb)), (vw, .inr (6, [.ref vN, .ref vS, .ref vM, .ref vF])), (vM, .inl (cI, 640, .inl vm)), (vF, .inl (cI, 640, .inl vf))] := hD
        rw [hf_44] at hP hD
        refine lv_iload S.1 S.2.1 dX8_goOneStep_80 (lv_at hl 0 rfl) ?_
        have hP := hP.sub (ws' := [(x, .inr (8, [.ref sa, .ref tp, .ref ct, .ref dr, .ref rd, .ref im, .ref vw, .ref vu, .ref wh, .ref mk, .ref ak, .int lt, .int fi])), (ct, .inr (1, [.int cw, .int ch, .int cp, .ref aCells, .ref aPrices, .ref aFree, .ref aPlaces, .ref aHomes, .ref aManners, .ref aGone, .ref aPaid, .ref aBlinks])), (aPrices, .inl (cI, 6, .inl fp)), (aPlaces, .inl (cI, 6, .inl f_40)), (aManners, .inl (cI, 6, .inl fm)), (aFree, .inl (cI, 6, .inl ff)), (aGone, .inl (cI, 6, .inl f_44)), (aPaid, .inl (cI, 36, .inl fd)), (aBlinks, .inl (cI, 36, .inl fb)), (vw, .inr (6, [.ref vN, .ref vS, .ref vM, .ref vF])), (vN, .inl (cI, 640, .inl vn)), (vM, .inl (cI, 640, .inl vm)), (vF, .inl (cI, 640, .inl vf))]) [3, 4, 5, 0, 6, 7, 1, 8, 9, 10, 2, 11, 12] rfl
        have hD := hD.sub (ws' := [(x, .inr (8, [.ref sa, .ref tp, .ref ct, .ref dr, .ref rd, .ref im, .ref vw, .ref vu, .ref wh, .ref mk, .ref ak, .int lt, .int fi])), (ct, .inr (1, [.int cw, .int ch, .int cp, .ref aCells, .ref aPrices, .ref aFree, .ref aPlaces, .ref aHomes, .ref aManners, .ref aGone, .ref aPaid, .ref aBlinks])), (aPrices, .inl (cI, 6, .inl fp)), (aPlaces, .inl (cI, 6, .inl f_40)), (aManners, .inl (cI, 6, .inl fm)), (aFree, .inl (cI, 6, .inl ff)), (aGone, .inl (cI, 6, .inl f_44)), (aPaid, .inl (cI, 36, .inl fd)), (aBlinks, .inl (cI, 36, .inl fb)), (vw, .inr (6, [.ref vN, .ref vS, .ref vM, .ref vF])), (vN, .inl (cI, 640, .inl vn)), (vM, .inl (cI, 640, .inl vm)), (vF, .inl (cI, 640, .inl vf))]) [3, 4, 5, 0, 6, 7, 1, 8, 9, 10, 2, 11, 12] (by decide) rfl
        have lq0 : Int32.toInt (0) = 0 := by decide
        exact b_iret S.1 S.2.1 X.2.1 X.2.2.1 hP hD hS ⟨f_40, f_44, fd, fb, (by first | with_reducible assumption | assumption | omega | decide | (rw [show Int32.toInt 0 = 0 from rfl]; omega)), py_.1, (CXd_s pl_ (by first | (and_intros <;> first | with_reducible assumption | (refine Int.le_antisymm ?_ ?_ <;> omega) | omega) | omega) (by first | (and_intros <;> first | with_reducible assumption | (refine Int.le_antisymm ?_ ?_ <;> omega) | omega) | omega) (by first | with_reducible assumption | assumption) (by first | with_reducible assumption | assumption) (by first | with_reducible assumption | assumption) rfl), rfl⟩ dX8_goOneStep_82
    · have hP : va_P D vwCl [(aPlaces, .inl (cI, 6, .inl fl)), (aGone, .inl (cI, 6, .inl fg)), (vN, .inl (cI, 640, .inl vn)), (x, .inr (8, [.ref sa, .ref tp, .ref ct, .ref dr, .ref rd, .ref im, .ref vw, .ref vu, .ref wh, .ref mk, .ref ak, .int lt, .int fi])), (ct, .inr (1, [.int cw, .int ch, .int cp, .ref aCells, .ref aPrices, .ref aFree, .ref aPlaces, .ref aHomes, .ref aManners, .ref aGone, .ref aPaid, .ref aBlinks])), (aPrices, .inl (cI, 6, .inl fp)), (aManners, .inl (cI, 6, .inl fm)), (aFree, .inl (cI, 6, .inl ff)), (aPaid, .inl (cI, 36, .inl fd2_25)), (aBlinks, .inl (cI, 36, .inl fb2_26)), (vw, .inr (6, [.ref vN, .ref vS, .ref vM, .ref vF])), (vM, .inl (cI, 640, .inl vm)), (vF, .inl (cI, 640, .inl vf))] H := hP
      have hD : va_D A [(aPlaces, .inl (cI, 6, .inl fl)), (aGone, .inl (cI, 6, .inl fg)), (vN, .inl (cI, 640, .inl vn)), (x, .inr (8, [.ref sa, .ref tp, .ref ct, .ref dr, .ref rd, .ref im, .ref vw, .ref vu, .ref wh, .ref mk, .ref ak, .int lt, .int fi])), (ct, .inr (1, [.int cw, .int ch, .int cp, .ref aCells, .ref aPrices, .ref aFree, .ref aPlaces, .ref aHomes, .ref aManners, .ref aGone, .ref aPaid, .ref aBlinks])), (aPrices, .inl (cI, 6, .inl fp)), (aManners, .inl (cI, 6, .inl fm)), (aFree, .inl (cI, 6, .inl ff)), (aPaid, .inl (cI, 36, .inl fd2_25)), (aBlinks, .inl (cI, 36, .inl fb2_26)), (vw, .inr (6, [.ref vN, .ref vS, .ref vM, .ref vF])), (vM, .inl (cI, 640, .inl vm)), (vF, .inl (cI, 640, .inl vf))] := hD
      refine lv_goto (tgt := 34) S.1 S.2.1 dX8_goOneStep_30 (by decide) ?_
      have py_ : (r_21).toInt = coG gg a.toInt co.toInt ∧ CXd (gaG gg a.toInt co.toInt) fl fg fd2_25 fb2_26 := by first | exact pay_N hd_ (by first | (and_intros <;> first | with_reducible assumption | (refine Int.le_antisymm ?_ ?_ <;> omega) | omega) | omega) rfl | exact pay_A (v := x_5) hd_ hv_ (by first | (and_intros <;> first | with_reducible assumption | (refine Int.le_antisymm ?_ ?_ <;> omega) | omega) | omega) (by first | (and_intros <;> first | with_reducible assumption | (refine Int.le_antisymm ?_ ?_ <;> omega) | omega) | omega) (by first | (and_intros <;> first | with_reducible assumption | (refine Int.le_antisymm ?_ ?_ <;> omega) | omega) | omega) (by first | with_reducible assumption | assumption) rfl | exact pay_B (v := x_5) (a := a) rfl hd_ hq_ hv_ (by first | (and_intros <;> first | with_reducible assumption | (refine Int.le_antisymm ?_ ?_ <;> omega) | omega) | omega) (by first | (and_intros <;> first | with_reducible assumption | (refine Int.le_antisymm ?_ ?_ <;> omega) | omega) | omega) (by first | (and_intros <;> first | with_reducible assumption | (refine Int.le_antisymm ?_ ?_ <;> omega) | omega) | omega) (by first | (and_intros <;> first | with_reducible assumption | (refine Int.le_antisymm ?_ ?_ <;> omega) | omega) | omega) (by first | (and_intros <;> first | with_reducible assumption | (refine Int.le_antisymm ?_ ?_ <;> omega) | omega) | omega) rfl (by first | with_reducible assumption | assumption) (by first | with_reducible assumption | assumption) (by first | with_reducible assumption | assumption) (by first | with_reducible assumption | assumption)
      refine lv_istore (lv' := [(4, .int r_21), (3, .int x_5), (0, .ref x), (1, .int a), (2, .int co)]) S.1 S.2.1 dX8_goOneStep_34 hl (by decide) rfl (fun ls hl => ?_)
      refine lv_aload_n S.1 S.2.1 dX8_goOneStep_36 rfl (lv_at hl 2 rfl) ?_
      refine b_get (v := .ref vw) S iX8 hK hP 3 rfl rfl 6 (by decide) (by decide +kernel) rfl dX8_goOneStep_37 ?_
      refine b_get (v := .ref vN) S iX6 hK hP 10 rfl rfl 0 (by decide) (by decide +kernel) rfl dX8_goOneStep_40 ?_
      refine lv_iload_n S.1 S.2.1 dX8_goOneStep_43 rfl (lv_at hl 1 rfl) ?_
      have hin_45 : vp_in x_5 640 := (in_of (n := 640) (by  omega) (by  omega))
      refine va_iald S.1 S.2.1 hK.1 hP 2 0 rfl rfl hin_45 dX8_goOneStep_44 ?_
      refine lv_topi (fun x_46 ex_46 => ?_)
      have tx_46 := rng_get (x := x_46) (show rng vn 640 (-1) (79) by assumption) hin_45 ex_46
      have nxx_46 : x_46.toInt = (nxT gg (gg (96 + 4 * a.toInt.toNat)) (co.toInt % 8)) := by rw [ex_46]; exact (VWn_at hv_ (by first | (and_intros <;> first | with_reducible assumption | (refine Int.le_antisymm ?_ ?_ <;> omega) | omega) | omega) (by first | (and_intros <;> first | with_reducible assumption | (refine Int.le_antisymm ?_ ?_ <;> omega) | omega) | omega) (by first | (and_intros <;> first | with_reducible assumption | (refine Int.le_antisymm ?_ ?_ <;> omega) | omega) | omega)).1
      refine lv_iconst (v := (-1)) S.1 S.2.1 dX8_goOneStep_45 (by decide) ?_
      refine lv_icmp_eq (tgt := 67) S.1 S.2.1 dX8_goOneStep_46 (by decide) (fun c_47 => ?_) (fun c_47 => ?_)
      · rw [eq2 (a := x_46) (b := (-1)) (A := x_46.toInt) (B := -1) rfl rfl] at c_47
        have ga3 := gaG_o (g := gg) (p := a.toInt) (co := co.toInt) (j := 3) hgo (by first | (and_intros <;> first | with_reducible assumption | (refine Int.le_antisymm ?_ ?_ <;> omega) | omega) | omega) (by first | (and_intros <;> first | with_reducible assumption | (refine Int.le_antisymm ?_ ?_ <;> omega) | omega) | omega) (by decide)
        have gn3 := gnG_3 (g := (gaG gg a.toInt co.toInt)) (p := a.toInt) (n := (nxT gg (gg (96 + 4 * a.toInt.toNat)) (co.toInt % 8))) (by first | (and_intros <;> first | with_reducible assumption | (refine Int.le_antisymm ?_ ?_ <;> omega) | omega) | omega)
        have pl_ : CXd (gnG (gaG gg a.toInt co.toInt) a.toInt (nxT gg (gg (96 + 4 * a.toInt.toNat)) (co.toInt % 8))) fl fg fd2_25 fb2_26 := by first | exact CXd_n0 py_.2 (by first | (and_intros <;> first | with_reducible assumption | (refine Int.le_antisymm ?_ ?_ <;> omega) | omega) | omega) | exact CXd_n py_.2 (by first | (and_intros <;> first | with_reducible assumption | (refine Int.le_antisymm ?_ ?_ <;> omega) | omega) | omega) (by first | (and_intros <;> first | with_reducible assumption | (refine Int.le_antisymm ?_ ?_ <;> omega) | omega) | omega) (by first | with_reducible assumption | assumption) rfl (by first | (and_intros <;> first | with_reducible assumption | (refine Int.le_antisymm ?_ ?_ <;> omega) | omega) | omega) (by first | (and_intros <;> first | with_reducible assumption | (refine Int.le_antisymm ?_ ?_ <;> omega) | omega) | omega)
        refine lv_aload_n S.1 S.2.1 dX8_goOneStep_67 rfl (lv_at hl 2 rfl) ?_
        refine b_get (v := .ref ct) S iX8 hK hP 3 rfl rfl 2 (by decide) (by decide +kernel) rfl dX8_goOneStep_68 ?_
        refine b_get (v := .ref aGone) S iX1 hK hP 4 rfl rfl 9 (by decide) (by decide +kernel) rfl dX8_goOneStep_71 ?_
        refine lv_iload_n S.1 S.2.1 dX8_goOneStep_74 rfl (lv_at hl 3 rfl) ?_
        refine lv_dup2_11 S.1 S.2.1 dX8_goOneStep_75 rfl rfl ?_
        have hin_48 : vp_in a 6 := (in_of (n := 6) (by  omega) (by  omega))
        refine va_iald S.1 S.2.1 hK.1 hP 1 0 rfl rfl hin_48 dX8_goOneStep_76 ?_
        refine lv_topi (fun x_49 ex_49 => ?_)
        refine lv_iconst (v := (1)) S.1 S.2.1 dX8_goOneStep_77 (by decide) ?_
        refine lv_iadd S.1 S.2.1 dX8_goOneStep_78 ?_
        refine lv_topi (fun x_50 ex_50 => ?_)
        refine va_iast S.1 S.2.1 hK.1 hP hD hS 1 0 rfl rfl (in_of (n := 6) (by  omega) (by  omega)) dX8_goOneStep_79 (fun H locs hP hD hS => ?_)
        obtain ⟨f_51, hf_51⟩ : ∃ g, (upd fg a.toNatClampNeg (x_50)) = g := ⟨_, rfl⟩
        have hP : va_P D vwCl [(aPlaces, .inl (cI, 6, .inl fl)), (aGone, .inl (cI, 6, .inl (upd fg a.toNatClampNeg (x_50)))), (vN, .inl (cI, 640, .inl vn)), (x, .inr (8, [.ref sa, .ref tp, .ref ct, .ref dr, .ref rd, .ref im, .ref vw, .ref vu, .ref wh, .ref mk, .ref ak, .int lt, .int fi])), (ct, .inr (1, [.int cw, .int ch, .int cp, .ref aCells, .ref aPrices, .ref aFree, .ref aPlaces, .ref aHomes, .ref aManners, .ref aGone, .ref aPaid, .ref aBlinks])), (aPrices, .inl (cI, 6, .inl fp)), (aManners, .inl (cI, 6, .inl fm)), (aFree, .inl (cI, 6, .inl ff)), (aPaid, .inl (cI, 36, .inl fd2_25)), (aBlinks, .inl (cI, 36, .inl fb2_26)), (vw, .inr (6, [.ref vN, .ref vS, .ref vM, .ref vF])), (vM, .inl (cI, 640, .inl vm)), (vF, .inl (cI, 640, .inl vf))] H := hP
        have hD : va_D A [(aPlaces, .inl (cI, 6, .inl fl)), (aGone, .inl (cI, 6, .inl (upd fg a.toNatClampNeg (x_50)))), (vN, .inl (cI, 640, .inl vn)), (x, .inr (8, [.ref sa, .ref tp, .ref ct, .ref dr, .ref rd, .ref im, .ref vw, .ref vu, .ref wh, .ref mk, .ref ak, .int lt, .int fi])), (ct, .inr (1, [.int cw, .int ch, .int cp, .ref aCells, .ref aPrices, .ref aFree, .ref aPlaces, .ref aHomes, .ref aManners, .ref aGone, .ref aPaid, .ref aBlinks])), (aPrices, .inl (cI, 6, .inl fp)), (aManners, .inl (cI, 6, .inl fm)), (aFree, .inl (cI, 6, .inl ff)), (aPaid, .inl (cI, 36, .inl fd2_25)), (aBlinks, .inl (cI, 36, .inl fb2_26)), (vw, .inr (6, [.ref vN, .ref vS, .ref vM, .ref vF])), (vM, .inl (cI, 640, .inl vm)), (vF, .inl (cI, 640, .inl vf))] := hD
        rw [hf_51] at hP hD
        refine lv_iload S.1 S.2.1 dX8_goOneStep_80 (lv_at hl 0 rfl) ?_
        have hP := hP.sub (ws' := [(x, .inr (8, [.ref sa, .ref tp, .ref ct, .ref dr, .ref rd, .ref im, .ref vw, .ref vu, .ref wh, .ref mk, .ref ak, .int lt, .int fi])), (ct, .inr (1, [.int cw, .int ch, .int cp, .ref aCells, .ref aPrices, .ref aFree, .ref aPlaces, .ref aHomes, .ref aManners, .ref aGone, .ref aPaid, .ref aBlinks])), (aPrices, .inl (cI, 6, .inl fp)), (aPlaces, .inl (cI, 6, .inl fl)), (aManners, .inl (cI, 6, .inl fm)), (aFree, .inl (cI, 6, .inl ff)), (aGone, .inl (cI, 6, .inl f_51)), (aPaid, .inl (cI, 36, .inl fd2_25)), (aBlinks, .inl (cI, 36, .inl fb2_26)), (vw, .inr (6, [.ref vN, .ref vS, .ref vM, .ref vF])), (vN, .inl (cI, 640, .inl vn)), (vM, .inl (cI, 640, .inl vm)), (vF, .inl (cI, 640, .inl vf))]) [3, 4, 5, 0, 6, 7, 1, 8, 9, 10, 2, 11, 12] rfl
        have hD := hD.sub (ws' := [(x, .inr (8, [.ref sa, .ref tp, .ref ct, .ref dr, .ref rd, .ref im, .ref vw, .ref vu, .ref wh, .ref mk, .ref ak, .int lt, .int fi])), (ct, .inr (1, [.int cw, .int ch, .int cp, .ref aCells, .ref aPrices, .ref aFree, .ref aPlaces, .ref aHomes, .ref aManners, .ref aGone, .ref aPaid, .ref aBlinks])), (aPrices, .inl (cI, 6, .inl fp)), (aPlaces, .inl (cI, 6, .inl fl)), (aManners, .inl (cI, 6, .inl fm)), (aFree, .inl (cI, 6, .inl ff)), (aGone, .inl (cI, 6, .inl f_51)), (aPaid, .inl (cI, 36, .inl fd2_25)), (aBlinks, .inl (cI, 36, .inl fb2_26)), (vw, .inr (6, [.ref vN, .ref vS, .ref vM, .ref vF])), (vN, .inl (cI, 640, .inl vn)), (vM, .inl (cI, 640, .inl vm)), (vF, .inl (cI, 640, .inl vf))]) [3, 4, 5, 0, 6, 7, 1, 8, 9, 10, 2, 11, 12] (by decide) rfl
        exact b_iret S.1 S.2.1 X.2.1 X.2.2.1 hP hD hS ⟨fl, f_51, fd2_25, fb2_26, (by first | with_reducible assumption | assumption | omega | decide | (rw [show Int32.toInt 0 = 0 from rfl]; omega)), py_.1, (CXd_s pl_ (by first | (and_intros <;> first | with_reducible assumption | (refine Int.le_antisymm ?_ ?_ <;> omega) | omega) | omega) (by first | (and_intros <;> first | with_reducible assumption | (refine Int.le_antisymm ?_ ?_ <;> omega) | omega) | omega) (by first | with_reducible assumption | assumption) (by first | with_reducible assumption | assumption) (by first | with_reducible assumption | assumption) rfl), rfl⟩ dX8_goOneStep_82
      · rw [eq2 (a := x_46) (b := (-1)) (A := x_46.toInt) (B := -1) rfl rfl] at c_47
        refine lv_aload_n S.1 S.2.1 dX8_goOneStep_49 rfl (lv_at hl 2 rfl) ?_
        refine b_get (v := .ref ct) S iX8 hK hP 3 rfl rfl 2 (by decide) (by decide +kernel) rfl dX8_goOneStep_50 ?_
        refine b_get (v := .ref aPlaces) S iX1 hK hP 4 rfl rfl 6 (by decide) (by decide +kernel) rfl dX8_goOneStep_53 ?_
        refine lv_iload_n S.1 S.2.1 dX8_goOneStep_56 rfl (lv_at hl 3 rfl) ?_
        refine lv_aload_n S.1 S.2.1 dX8_goOneStep_57 rfl (lv_at hl 2 rfl) ?_
        refine b_get (v := .ref vw) S iX8 hK hP 3 rfl rfl 6 (by decide) (by decide +kernel) rfl dX8_goOneStep_58 ?_
        refine b_get (v := .ref vN) S iX6 hK hP 10 rfl rfl 0 (by decide) (by decide +kernel) rfl dX8_goOneStep_61 ?_
        refine lv_iload_n S.1 S.2.1 dX8_goOneStep_64 rfl (lv_at hl 1 rfl) ?_
        have hin_52 : vp_in x_5 640 := (in_of (n := 640) (by  omega) (by  omega))
        refine va_iald S.1 S.2.1 hK.1 hP 2 0 rfl rfl hin_52 dX8_goOneStep_65 ?_
        refine lv_topi (fun x_53 ex_53 => ?_)
        have tx_53 := rng_get (x := x_53) (show rng vn 640 (-1) (79) by assumption) hin_52 ex_53
        have nxx_53 : x_53.toInt = (nxT gg (gg (96 + 4 * a.toInt.toNat)) (co.toInt % 8)) := by rw [ex_53]; exact (VWn_at hv_ (by first | (and_intros <;> first | with_reducible assumption | (refine Int.le_antisymm ?_ ?_ <;> omega) | omega) | omega) (by first | (and_intros <;> first | with_reducible assumption | (refine Int.le_antisymm ?_ ?_ <;> omega) | omega) | omega) (by first | (and_intros <;> first | with_reducible assumption | (refine Int.le_antisymm ?_ ?_ <;> omega) | omega) | omega)).1
        have lx_53 : x_53.toInt = x_46.toInt := by rw [ex_53, ex_46]
        refine va_iast S.1 S.2.1 hK.1 hP hD hS 0 0 rfl rfl (in_of (n := 6) (by  omega) (by  omega)) dX8_goOneStep_66 (fun H locs hP hD hS => ?_)
        obtain ⟨f_54, hf_54, rf_54⟩ : ∃ g, (upd fl a.toNatClampNeg (x_53)) = g ∧ rng g 6 (0) (79) := ⟨_, rfl, rng_upd (by first | with_reducible assumption | assumption) (show (0 : Int) ≤ (x_53 : Int32).toInt ∧ (x_53 : Int32).toInt ≤ 79 from by omega)⟩
        have hP : va_P D vwCl [(aPlaces, .inl (cI, 6, .inl (upd fl a.toNatClampNeg (x_53)))), (aGone, .inl (cI, 6, .inl fg)), (vN, .inl (cI, 640, .inl vn)), (x, .inr (8, [.ref sa, .ref tp, .ref ct, .ref dr, .ref rd, .ref im, .ref vw, .ref vu, .ref wh, .ref mk, .ref ak, .int lt, .int fi])), (ct, .inr (1, [.int cw, .int ch, .int cp, .ref aCells, .ref aPrices, .ref aFree, .ref aPlaces, .ref aHomes, .ref aManners, .ref aGone, .ref aPaid, .ref aBlinks])), (aPrices, .inl (cI, 6, .inl fp)), (aManners, .inl (cI, 6, .inl fm)), (aFree, .inl (cI, 6, .inl ff)), (aPaid, .inl (cI, 36, .inl fd2_25)), (aBlinks, .inl (cI, 36, .inl fb2_26)), (vw, .inr (6, [.ref vN, .ref vS, .ref vM, .ref vF])), (vM, .inl (cI, 640, .inl vm)), (vF, .inl (cI, 640, .inl vf))] H := hP
        have hD : va_D A [(aPlaces, .inl (cI, 6, .inl (upd fl a.toNatClampNeg (x_53)))), (aGone, .inl (cI, 6, .inl fg)), (vN, .inl (cI, 640, .inl vn)), (x, .inr (8, [.ref sa, .ref tp, .ref ct, .ref dr, .ref rd, .ref im, .ref vw, .ref vu, .ref wh, .ref mk, .ref ak, .int lt, .int fi])), (ct, .inr (1, [.int cw, .int ch, .int cp, .ref aCells, .ref aPrices, .ref aFree, .ref aPlaces, .ref aHomes, .ref aManners, .ref aGone, .ref aPaid, .ref aBlinks])), (aPrices, .inl (cI, 6, .inl fp)), (aManners, .inl (cI, 6, .inl fm)), (aFree, .inl (cI, 6, .inl ff)), (aPaid, .inl (cI, 36, .inl fd2_25)), (aBlinks, .inl (cI, 36, .inl fb2_26)), (vw, .inr (6, [.ref vN, .ref vS, .ref vM, .ref vF])), (vM, .inl (cI, 640, .inl vm)), (vF, .inl (cI, 640, .inl vf))] := hD
        rw [hf_54] at hP hD
        have ga3 := gaG_o (g := gg) (p := a.toInt) (co := co.toInt) (j := 3) hgo (by first | (and_intros <;> first | with_reducible assumption | (refine Int.le_antisymm ?_ ?_ <;> omega) | omega) | omega) (by first | (and_intros <;> first | with_reducible assumption | (refine Int.le_antisymm ?_ ?_ <;> omega) | omega) | omega) (by decide)
        have gn3 := gnG_3 (g := (gaG gg a.toInt co.toInt)) (p := a.toInt) (n := (nxT gg (gg (96 + 4 * a.toInt.toNat)) (co.toInt % 8))) (by first | (and_intros <;> first | with_reducible assumption | (refine Int.le_antisymm ?_ ?_ <;> omega) | omega) | omega)
        have pl_ : CXd (gnG (gaG gg a.toInt co.toInt) a.toInt (nxT gg (gg (96 + 4 * a.toInt.toNat)) (co.toInt % 8))) f_54 fg fd2_25 fb2_26 := by first | exact CXd_n0 py_.2 (by first | (and_intros <;> first | with_reducible assumption | (refine Int.le_antisymm ?_ ?_ <;> omega) | omega) | omega) | exact CXd_n py_.2 (by first | (and_intros <;> first | with_reducible assumption | (refine Int.le_antisymm ?_ ?_ <;> omega) | omega) | omega) (by first | (and_intros <;> first | with_reducible assumption | (refine Int.le_antisymm ?_ ?_ <;> omega) | omega) | omega) (by first | with_reducible assumption | assumption) rfl (by first | (and_intros <;> first | with_reducible assumption | (refine Int.le_antisymm ?_ ?_ <;> omega) | omega) | omega) (by first | (and_intros <;> first | with_reducible assumption | (refine Int.le_antisymm ?_ ?_ <;> omega) | omega) | omega)
        refine lv_aload_n S.1 S.2.1 dX8_goOneStep_67 rfl (lv_at hl 2 rfl) ?_
        refine b_get (v := .ref ct) S iX8 hK hP 3 rfl rfl 2 (by decide) (by decide +kernel) rfl dX8_goOneStep_68 ?_
        refine b_get (v := .ref aGone) S iX1 hK hP 4 rfl rfl 9 (by decide) (by decide +kernel) rfl dX8_goOneStep_71 ?_
        refine lv_iload_n S.1 S.2.1 dX8_goOneStep_74 rfl (lv_at hl 3 rfl) ?_
        refine lv_dup2_11 S.1 S.2.1 dX8_goOneStep_75 rfl rfl ?_
        have hin_55 : vp_in a 6 := (in_of (n := 6) (by  omega) (by  omega))
        refine va_iald S.1 S.2.1 hK.1 hP 1 0 rfl rfl hin_55 dX8_goOneStep_76 ?_
        refine lv_topi (fun x_56 ex_56 => ?_)
        refine lv_iconst (v := (1)) S.1 S.2.1 dX8_goOneStep_77 (by decide) ?_
        refine lv_iadd S.1 S.2.1 dX8_goOneStep_78 ?_
        refine lv_topi (fun x_57 ex_57 => ?_)
        refine va_iast S.1 S.2.1 hK.1 hP hD hS 1 0 rfl rfl (in_of (n := 6) (by  omega) (by  omega)) dX8_goOneStep_79 (fun H locs hP hD hS => ?_)
        obtain ⟨f_58, hf_58⟩ : ∃ g, (upd fg a.toNatClampNeg (x_57)) = g := ⟨_, rfl⟩
        have hP : va_P D vwCl [(aPlaces, .inl (cI, 6, .inl f_54)), (aGone, .inl (cI, 6, .inl (upd fg a.toNatClampNeg (x_57)))), (vN, .inl (cI, 640, .inl vn)), (x, .inr (8, [.ref sa, .ref tp, .ref ct, .ref dr, .ref rd, .ref im, .ref vw, .ref vu, .ref wh, .ref mk, .ref ak, .int lt, .int fi])), (ct, .inr (1, [.int cw, .int ch, .int cp, .ref aCells, .ref aPrices, .ref aFree, .ref aPlaces, .ref aHomes, .ref aManners, .ref aGone, .ref aPaid, .ref aBlinks])), (aPrices, .inl (cI, 6, .inl fp)), (aManners, .inl (cI, 6, .inl fm)), (aFree, .inl (cI, 6, .inl ff)), (aPaid, .inl (cI, 36, .inl fd2_25)), (aBlinks, .inl (cI, 36, .inl fb2_26)), (vw, .inr (6, [.ref vN, .ref vS, .ref vM, .ref vF])), (vM, .inl (cI, 640, .inl vm)), (vF, .inl (cI, 640, .inl vf))] H := hP
        have hD : va_D A [(aPlaces, .inl (cI, 6, .inl f_54)), (aGone, .inl (cI, 6, .inl (upd fg a.toNatClampNeg (x_57)))), (vN, .inl (cI, 640, .inl vn)), (x, .inr (8, [.ref sa, .ref tp, .ref ct, .ref dr, .ref rd, .ref im, .ref vw, .ref vu, .ref wh, .ref mk, .ref ak, .int lt, .int fi])), (ct, .inr (1, [.int cw, .int ch, .int cp, .ref aCells, .ref aPrices, .ref aFree, .ref aPlaces, .ref aHomes, .ref aManners, .ref aGone, .ref aPaid, .ref aBlinks])), (aPrices, .inl (cI, 6, .inl fp)), (aManners, .inl (cI, 6, .inl fm)), (aFree, .inl (cI, 6, .inl ff)), (aPaid, .inl (cI, 36, .inl fd2_25)), (aBlinks, .inl (cI, 36, .inl fb2_26)), (vw, .inr (6, [.ref vN, .ref vS, .ref vM, .ref vF])), (vM, .inl (cI, 640, .inl vm)), (vF, .inl (cI, 640, .inl vf))] := hD
        rw [hf_58] at hP hD
        refine lv_iload S.1 S.2.1 dX8_goOneStep_80 (lv_at hl 0 rfl) ?_
        have hP := hP.sub (ws' := [(x, .inr (8, [.ref sa, .ref tp, .ref ct, .ref dr, .ref rd, .ref im, .ref vw, .ref vu, .ref wh, .ref mk, .ref ak, .int lt, .int fi])), (ct, .inr (1, [.int cw, .int ch, .int cp, .ref aCells, .ref aPrices, .ref aFree, .ref aPlaces, .ref aHomes, .ref aManners, .ref aGone, .ref aPaid, .ref aBlinks])), (aPrices, .inl (cI, 6, .inl fp)), (aPlaces, .inl (cI, 6, .inl f_54)), (aManners, .inl (cI, 6, .inl fm)), (aFree, .inl (cI, 6, .inl ff)), (aGone, .inl (cI, 6, .inl f_58)), (aPaid, .inl (cI, 36, .inl fd2_25)), (aBlinks, .inl (cI, 36, .inl fb2_26)), (vw, .inr (6, [.ref vN, .ref vS, .ref vM, .ref vF])), (vN, .inl (cI, 640, .inl vn)), (vM, .inl (cI, 640, .inl vm)), (vF, .inl (cI, 640, .inl vf))]) [3, 4, 5, 0, 6, 7, 1, 8, 9, 10, 2, 11, 12] rfl
        have hD := hD.sub (ws' := [(x, .inr (8, [.ref sa, .ref tp, .ref ct, .ref dr, .ref rd, .ref im, .ref vw, .ref vu, .ref wh, .ref mk, .ref ak, .int lt, .int fi])), (ct, .inr (1, [.int cw, .int ch, .int cp, .ref aCells, .ref aPrices, .ref aFree, .ref aPlaces, .ref aHomes, .ref aManners, .ref aGone, .ref aPaid, .ref aBlinks])), (aPrices, .inl (cI, 6, .inl fp)), (aPlaces, .inl (cI, 6, .inl f_54)), (aManners, .inl (cI, 6, .inl fm)), (aFree, .inl (cI, 6, .inl ff)), (aGone, .inl (cI, 6, .inl f_58)), (aPaid, .inl (cI, 36, .inl fd2_25)), (aBlinks, .inl (cI, 36, .inl fb2_26)), (vw, .inr (6, [.ref vN, .ref vS, .ref vM, .ref vF])), (vN, .inl (cI, 640, .inl vn)), (vM, .inl (cI, 640, .inl vm)), (vF, .inl (cI, 640, .inl vf))]) [3, 4, 5, 0, 6, 7, 1, 8, 9, 10, 2, 11, 12] (by decide) rfl
        exact b_iret S.1 S.2.1 X.2.1 X.2.2.1 hP hD hS ⟨f_54, f_58, fd2_25, fb2_26, (by first | with_reducible assumption | assumption | omega | decide | (rw [show Int32.toInt 0 = 0 from rfl]; omega)), py_.1, (CXd_s pl_ (by first | (and_intros <;> first | with_reducible assumption | (refine Int.le_antisymm ?_ ?_ <;> omega) | omega) | omega) (by first | (and_intros <;> first | with_reducible assumption | (refine Int.le_antisymm ?_ ?_ <;> omega) | omega) | omega) (by first | with_reducible assumption | assumption) (by first | with_reducible assumption | assumption) (by first | with_reducible assumption | assumption) rfl), rfl⟩ dX8_goOneStep_82
set_option maxHeartbeats 4000000 in
set_option maxRecDepth 100000 in
theorem lp_seen2 {p : Program} (l : Launch) {e : Env} {s : State} {m : MethodId} {below : List Frame} {meth : Method} {c : Code} (D : va_G) (cI cZ cC cS : ClassId) (sq : Nat → Nat) (x : Nat) (vw : Nat) (vN : Nat) (k : Int32) (sa : Nat) (tp : Nat) (ct : Nat) (dr : Nat) (rd : Nat) (im : Nat) (vu : Nat) (wh : Nat) (mk : Nat) (ak : Nat) (lt : Int32) (fi : Int32) (vS : Nat) (vM : Nat) (vF : Nat) (vn : Nat → Int32) (hrg_vn : rng vn 640 (-1) (79)) (hk : 0 ≤ k.toInt ∧ k.toInt < 80) (wy : Int32) (hwy : 0 ≤ wy.toInt ∧ wy.toInt < 8) {A : Nat → Prop} (X : bX p s m meth c cX8_seenFrom 6 wsX8_seenFrom yX8_seenFrom (some .int) [.ref x, .int k]) (hK : kW D (tyW cI cZ cC cS) sq s) (hT : sT sq A s s.heap) (hA : ∀ q, s.heap.size ≤ q → A q) (K : ∀ (j : Int32) (q : Int32) (at_ : Int32), (rng vn 640 (-1) (79)) → (0 ≤ j.toInt ∧ j.toInt ≤ 10) → (-1 ≤ at_.toInt ∧ at_.toInt < 80) → ∀ (H : Heap) (locs : List Loc) (ls : Array Slot), va_P D vwCl [(x, .inr (8, [.ref sa, .ref tp, .ref ct, .ref dr, .ref rd, .ref im, .ref vw, .ref vu, .ref wh, .ref mk, .ref ak, .int lt, .int fi])), (vw, .inr (6, [.ref vN, .ref vS, .ref vM, .ref vF])), (vN, .inl (cI, 640, .inl vn))] H → va_D A [(x, .inr (8, [.ref sa, .ref tp, .ref ct, .ref dr, .ref rd, .ref im, .ref vw, .ref vu, .ref wh, .ref mk, .ref ak, .int lt, .int fi])), (vw, .inr (6, [.ref vN, .ref vS, .ref vM, .ref vF])), (vN, .inl (cI, 640, .inl vn))] → va_S A s.heap H locs → lv_has ls 6 [(5, .int j), (4, .int at_), (3, .int wy), (2, .int q), (0, .ref x), (1, .int k)] → W p l e (rmW 0 0 0 0) s m ([.ref x, .int k] : List Value).toArray below meth c H locs 0 0 (MQ below (va_Qi (fun r w => (w = [(x, .inr (8, [.ref sa, .ref tp, .ref ct, .ref dr, .ref rd, .ref im, .ref vw, .ref vu, .ref wh, .ref mk, .ref ak, .int lt, .int fi])), (vw, .inr (6, [.ref vN, .ref vS, .ref vM, .ref vF])), (vN, .inl (cI, 640, .inl vn))])) (wD D A) A) ([.ref x, .int k] : List Value).toArray s 0 0 A) (F0 m 68 ls [])) : ∀ (mN : Nat) (j : Int32) (q : Int32) (at_ : Int32), (rng vn 640 (-1) (79)) → (0 ≤ j.toInt ∧ j.toInt ≤ 10) → (-1 ≤ at_.toInt ∧ at_.toInt < 80) → ((10 - j.toInt).toNat < mN) → ∀ (H : Heap) (locs : List Loc) (ls : Array Slot), va_P D vwCl [(x, .inr (8, [.ref sa, .ref tp, .ref ct, .ref dr, .ref rd, .ref im, .ref vw, .ref vu, .ref wh, .ref mk, .ref ak, .int lt, .int fi])), (vw, .inr (6, [.ref vN, .ref vS, .ref vM, .ref vF])), (vN, .inl (cI, 640, .inl vn))] H → va_D A [(x, .inr (8, [.ref sa, .ref tp, .ref ct, .ref dr, .ref rd, .ref im, .ref vw, .ref vu, .ref wh, .ref mk, .ref ak, .int lt, .int fi])), (vw, .inr (6, [.ref vN, .ref vS, .ref vM, .ref vF])), (vN, .inl (cI, 640, .inl vn))] → va_S A s.heap H locs → lv_has ls 6 [(5, .int j), (4, .int at_), (3, .int wy), (2, .int q), (0, .ref x), (1, .int k)] → W p l e (rmW 0 0 0 0) s m ([.ref x, .int k] : List Value).toArray below meth c H locs 0 0 (MQ below (va_Qi (fun r w => (w = [(x, .inr (8, [.ref sa, .ref tp, .ref ct, .ref dr, .ref rd, .ref im, .ref vw, .ref vu, .ref wh, .ref mk, .ref ak, .int lt, .int fi])), (vw, .inr (6, [.ref vN, .ref vS, .ref vM, .ref vF])), (vN, .inl (cI, 640, .inl vn))])) (wD D A) A) ([.ref x, .int k] : List Value).toArray s 0 0 A) (F0 m 29 ls []) := by
  have S : CallFix p m c cX8_seenFrom 6 s ([.ref x, .int k] : List Value).toArray wsX8_seenFrom RX8 := X.1
  have iX6 := jX8_seenFrom_X6
  have iX8 := jX8_seenFrom_X8
  intro mN
  induction mN with
  | zero => intro j q at_ hrg_vn hj hat hm; exact absurd hm (Nat.not_lt_zero _)
  | succ mN ih =>
    intro j q at_ hrg_vn hj hat hm H locs ls hP hD hS hl
    refine lv_iload S.1 S.2.1 dX8_seenFrom_29 (lv_at hl 0 rfl) ?_
    refine lv_bipush (v := (10)) S.1 S.2.1 dX8_seenFrom_31 (by decide) ?_
    refine lv_icmp_ge (tgt := 68) S.1 S.2.1 dX8_seenFrom_33 (by decide) (fun c_101 => ?_) (fun c_101 => ?_)
    · rw [le2 (a := 10) (b := j) (A := 10) (B := j.toInt) rfl rfl] at c_101
      exact K j q at_ (by first | with_reducible assumption | assumption | omega | decide | (rw [show Int32.toInt 0 = 0 from rfl]; omega)) (by first | with_reducible assumption | decide | (and_intros <;> first | with_reducible assumption | (intros; refine Int.le_antisymm ?_ ?_ <;> omega) | omega) | assumption | (rw [show Int32.toInt 0 = 0 from rfl]; omega)) (by first | with_reducible assumption | decide | (and_intros <;> first | with_reducible assumption | (intros; refine Int.le_antisymm ?_ ?_ <;> omega) | omega) | assumption | (rw [show Int32.toInt 0 = 0 from rfl]; omega)) H _ ls hP hD hS (lv_sub hl [0, 1, 2, 3, 4, 5] rfl)
    · rw [le2 (a := 10) (b := j) (A := 10) (B := j.toInt) rfl rfl] at c_101
      refine lv_iload S.1 S.2.1 dX8_seenFrom_36 (lv_at hl 1 rfl) ?_
      refine lv_iconst (v := (-1)) S.1 S.2.1 dX8_seenFrom_38 (by decide) ?_
      refine lv_icmp_eq (tgt := 68) S.1 S.2.1 dX8_seenFrom_39 (by decide) (fun c_102 => ?_) (fun c_102 => ?_)
      · rw [eq2 (a := at_) (b := (-1)) (A := at_.toInt) (B := -1) rfl rfl] at c_102
        exact K j q at_ (by first | with_reducible assumption | assumption | omega | decide | (rw [show Int32.toInt 0 = 0 from rfl]; omega)) (by first | with_reducible assumption | decide | (and_intros <;> first | with_reducible assumption | (intros; refine Int.le_antisymm ?_ ?_ <;> omega) | omega) | assumption | (rw [show Int32.toInt 0 = 0 from rfl]; omega)) (by first | with_reducible assumption | decide | (and_intros <;> first | with_reducible assumption | (intros; refine Int.le_antisymm ?_ ?_ <;> omega) | omega) | assumption | (rw [show Int32.toInt 0 = 0 from rfl]; omega)) H _ ls hP hD hS (lv_sub hl [0, 1, 2, 3, 4, 5] rfl)
      · rw [eq2 (a := at_) (b := (-1)) (A := at_.toInt) (B := -1) rfl rfl] at c_102
        obtain ⟨x_103, ex_103⟩ : ∃ y : Int32, y = q + Int32.ofInt (1) := ⟨_, rfl⟩
        refine lv_iinc (v := x_103) (lv' := [(2, .int x_103), (5, .int j), (4, .int at_), (3, .int wy), (0, .ref x), (1, .int k)]) S.1 S.2.1 dX8_seenFrom_42 hl (k := 3) rfl ex_103.symm (by decide) rfl (fun ls hl => ?_)
        refine lv_aload_n S.1 S.2.1 dX8_seenFrom_45 rfl (lv_at hl 4 rfl) ?_
        refine b_get (v := .ref vw) S iX8 hK hP 0 rfl rfl 6 (by decide) (by decide +kernel) rfl dX8_seenFrom_46 ?_
        refine b_get (v := .ref vN) S iX6 hK hP 1 rfl rfl 0 (by decide) (by decide +kernel) rfl dX8_seenFrom_49 ?_
        refine lv_iload S.1 S.2.1 dX8_seenFrom_52 (lv_at hl 2 rfl) ?_
        refine lv_bipush (v := (8)) S.1 S.2.1 dX8_seenFrom_54 (by decide) ?_
        refine lv_imul S.1 S.2.1 dX8_seenFrom_56 ?_
        refine lv_topi (fun x_104 ex_104 => ?_)
        have tx_104 : x_104.toInt = at_.toInt * 8 := mulI (A := at_.toInt) (B := 8) ex_104 rfl rfl (by  omega) (by  omega)
        refine lv_iload_n S.1 S.2.1 dX8_seenFrom_57 rfl (lv_at hl 3 rfl) ?_
        refine lv_iadd S.1 S.2.1 dX8_seenFrom_58 ?_
        refine lv_topi (fun x_105 ex_105 => ?_)
        have tx_105 : x_105.toInt = x_104.toInt + (wy.toInt) := addI (A := x_104.toInt) (B := wy.toInt) ex_105 rfl rfl (by  omega) (by  omega)
        have hin_106 : vp_in x_105 640 := (in_of (n := 640) (by  omega) (by  omega))
        refine va_iald S.1 S.2.1 hK.1 hP 2 0 rfl rfl hin_106 dX8_seenFrom_59 ?_
        refine lv_topi (fun x_107 ex_107 => ?_)
        have tx_107 := rng_get (x := x_107) (show rng vn 640 (-1) (79) by assumption) hin_106 ex_107
        refine lv_istore (lv' := [(4, .int x_107), (2, .int x_103), (5, .int j), (3, .int wy), (0, .ref x), (1, .int k)]) S.1 S.2.1 dX8_seenFrom_60 hl (by decide) rfl (fun ls hl => ?_)
        obtain ⟨x_108, ex_108⟩ : ∃ y : Int32, y = j + Int32.ofInt (1) := ⟨_, rfl⟩
        refine lv_iinc (v := x_108) (lv' := [(5, .int x_108), (4, .int x_107), (2, .int x_103), (3, .int wy), (0, .ref x), (1, .int k)]) S.1 S.2.1 dX8_seenFrom_62 hl (k := 2) rfl ex_108.symm (by decide) rfl (fun ls hl => ?_)
        have tx_108 : x_108.toInt = j.toInt + (1) := addI (A := j.toInt) (B := 1) ex_108 rfl rfl (by  omega) (by  omega)
        refine lv_goto (tgt := 29) S.1 S.2.1 dX8_seenFrom_65 (by decide) ?_
        exact ih x_108 x_103 x_107 (by first | with_reducible assumption | assumption | omega | decide | (rw [show Int32.toInt 0 = 0 from rfl]; omega)) (by first | with_reducible assumption | decide | (and_intros <;> first | with_reducible assumption | (intros; refine Int.le_antisymm ?_ ?_ <;> omega) | omega) | assumption | (rw [show Int32.toInt 0 = 0 from rfl]; omega)) (by first | with_reducible assumption | decide | (and_intros <;> first | with_reducible assumption | (intros; refine Int.le_antisymm ?_ ?_ <;> omega) | omega) | assumption | (rw [show Int32.toInt 0 = 0 from rfl]; omega)) (by first | (and_intros <;> first | with_reducible assumption | (refine Int.le_antisymm ?_ ?_ <;> omega) | omega) | omega) H _ ls hP hD hS (lv_sub hl [0, 1, 3, 2, 4, 5] rfl)
set_option maxHeartbeats 4000000 in
set_option maxRecDepth 100000 in
theorem lp_seen1 {p : Program} (l : Launch) {e : Env} {s : State} {m : MethodId} {below : List Frame} {meth : Method} {c : Code} (D : va_G) (cI cZ cC cS : ClassId) (sq : Nat → Nat) (x : Nat) (vw : Nat) (vN : Nat) (k : Int32) (sa : Nat) (tp : Nat) (ct : Nat) (dr : Nat) (rd : Nat) (im : Nat) (vu : Nat) (wh : Nat) (mk : Nat) (ak : Nat) (lt : Int32) (fi : Int32) (vS : Nat) (vM : Nat) (vF : Nat) (vn : Nat → Int32) (hrg_vn : rng vn 640 (-1) (79)) (hk : 0 ≤ k.toInt ∧ k.toInt < 80) {A : Nat → Prop} (X : bX p s m meth c cX8_seenFrom 6 wsX8_seenFrom yX8_seenFrom (some .int) [.ref x, .int k]) (hK : kW D (tyW cI cZ cC cS) sq s) (hT : sT sq A s s.heap) (hA : ∀ q, s.heap.size ≤ q → A q) (K : ∀ (i : Int32) (q : Int32), (rng vn 640 (-1) (79)) → (0 ≤ i.toInt ∧ i.toInt ≤ 8) → ∀ (H : Heap) (locs : List Loc) (ls : Array Slot), va_P D vwCl [(x, .inr (8, [.ref sa, .ref tp, .ref ct, .ref dr, .ref rd, .ref im, .ref vw, .ref vu, .ref wh, .ref mk, .ref ak, .int lt, .int fi])), (vw, .inr (6, [.ref vN, .ref vS, .ref vM, .ref vF])), (vN, .inl (cI, 640, .inl vn))] H → va_D A [(x, .inr (8, [.ref sa, .ref tp, .ref ct, .ref dr, .ref rd, .ref im, .ref vw, .ref vu, .ref wh, .ref mk, .ref ak, .int lt, .int fi])), (vw, .inr (6, [.ref vN, .ref vS, .ref vM, .ref vF])), (vN, .inl (cI, 640, .inl vn))] → va_S A s.heap H locs → lv_has ls 6 [(3, .int i), (2, .int q), (0, .ref x), (1, .int k)] → W p l e (rmW 0 0 0 0) s m ([.ref x, .int k] : List Value).toArray below meth c H locs 0 0 (MQ below (va_Qi (fun r w => (w = [(x, .inr (8, [.ref sa, .ref tp, .ref ct, .ref dr, .ref rd, .ref im, .ref vw, .ref vu, .ref wh, .ref mk, .ref ak, .int lt, .int fi])), (vw, .inr (6, [.ref vN, .ref vS, .ref vM, .ref vF])), (vN, .inl (cI, 640, .inl vn))])) (wD D A) A) ([.ref x, .int k] : List Value).toArray s 0 0 A) (F0 m 74 ls [])) : ∀ (mN : Nat) (i : Int32) (q : Int32), (rng vn 640 (-1) (79)) → (0 ≤ i.toInt ∧ i.toInt ≤ 8) → ((8 - i.toInt).toNat < mN) → ∀ (H : Heap) (locs : List Loc) (ls : Array Slot), va_P D vwCl [(x, .inr (8, [.ref sa, .ref tp, .ref ct, .ref dr, .ref rd, .ref im, .ref vw, .ref vu, .ref wh, .ref mk, .ref ak, .int lt, .int fi])), (vw, .inr (6, [.ref vN, .ref vS, .ref vM, .ref vF])), (vN, .inl (cI, 640, .inl vn))] H → va_D A [(x, .inr (8, [.ref sa, .ref tp, .ref ct, .ref dr, .ref rd, .ref im, .ref vw, .ref vu, .ref wh, .ref mk, .ref ak, .int lt, .int fi])), (vw, .inr (6, [.ref vN, .ref vS, .ref vM, .ref vF])), (vN, .inl (cI, 640, .inl vn))] → va_S A s.heap H locs → lv_has ls 6 [(3, .int i), (2, .int q), (0, .ref x), (1, .int k)] → W p l e (rmW 0 0 0 0) s m ([.ref x, .int k] : List Value).toArray below meth c H locs 0 0 (MQ below (va_Qi (fun r w => (w = [(x, .inr (8, [.ref sa, .ref tp, .ref ct, .ref dr, .ref rd, .ref im, .ref vw, .ref vu, .ref wh, .ref mk, .ref ak, .int lt, .int fi])), (vw, .inr (6, [.ref vN, .ref vS, .ref vM, .ref vF])), (vN, .inl (cI, 640, .inl vn))])) (wD D A) A) ([.ref x, .int k] : List Value).toArray s 0 0 A) (F0 m 4 ls []) := by
  have S : CallFix p m c cX8_seenFrom 6 s ([.ref x, .int k] : List Value).toArray wsX8_seenFrom RX8 := X.1
  have iX6 := jX8_seenFrom_X6
  have iX8 := jX8_seenFrom_X8
  intro mN
  induction mN with
  | zero => intro i q hrg_vn hi hm; exact absurd hm (Nat.not_lt_zero _)
  | succ mN ih =>
    intro i q hrg_vn hi hm H locs ls hP hD hS hl
    refine lv_iload_n S.1 S.2.1 dX8_seenFrom_4 rfl (lv_at hl 0 rfl) ?_
    refine lv_bipush (v := (8)) S.1 S.2.1 dX8_seenFrom_5 (by decide) ?_
    refine lv_icmp_ge (tgt := 74) S.1 S.2.1 dX8_seenFrom_7 (by decide) (fun c_201 => ?_) (fun c_201 => ?_)
    · rw [le2 (a := 8) (b := i) (A := 8) (B := i.toInt) rfl rfl] at c_201
      exact K i q (by first | with_reducible assumption | assumption | omega | decide | (rw [show Int32.toInt 0 = 0 from rfl]; omega)) (by first | with_reducible assumption | decide | (and_intros <;> first | with_reducible assumption | (intros; refine Int.le_antisymm ?_ ?_ <;> omega) | omega) | assumption | (rw [show Int32.toInt 0 = 0 from rfl]; omega)) H _ ls hP hD hS (lv_sub hl [0, 1, 2, 3] rfl)
    · rw [le2 (a := 8) (b := i) (A := 8) (B := i.toInt) rfl rfl] at c_201
      refine lv_aload_n S.1 S.2.1 dX8_seenFrom_10 rfl (lv_at hl 2 rfl) ?_
      refine b_get (v := .ref vw) S iX8 hK hP 0 rfl rfl 6 (by decide) (by decide +kernel) rfl dX8_seenFrom_11 ?_
      refine b_get (v := .ref vN) S iX6 hK hP 1 rfl rfl 0 (by decide) (by decide +kernel) rfl dX8_seenFrom_14 ?_
      refine lv_iload_n S.1 S.2.1 dX8_seenFrom_17 rfl (lv_at hl 3 rfl) ?_
      refine lv_bipush (v := (8)) S.1 S.2.1 dX8_seenFrom_18 (by decide) ?_
      refine lv_imul S.1 S.2.1 dX8_seenFrom_20 ?_
      refine lv_topi (fun x_202 ex_202 => ?_)
      have tx_202 : x_202.toInt = k.toInt * 8 := mulI (A := k.toInt) (B := 8) ex_202 rfl rfl (by  omega) (by  omega)
      refine lv_iload_n S.1 S.2.1 dX8_seenFrom_21 rfl (lv_at hl 0 rfl) ?_
      refine lv_iadd S.1 S.2.1 dX8_seenFrom_22 ?_
      refine lv_topi (fun x_203 ex_203 => ?_)
      have tx_203 : x_203.toInt = x_202.toInt + (i.toInt) := addI (A := x_202.toInt) (B := i.toInt) ex_203 rfl rfl (by  omega) (by  omega)
      have hin_204 : vp_in x_203 640 := (in_of (n := 640) (by  omega) (by  omega))
      refine va_iald S.1 S.2.1 hK.1 hP 2 0 rfl rfl hin_204 dX8_seenFrom_23 ?_
      refine lv_topi (fun x_205 ex_205 => ?_)
      have tx_205 := rng_get (x := x_205) (show rng vn 640 (-1) (79) by assumption) hin_204 ex_205
      refine lv_istore (lv' := [(4, .int x_205), (3, .int i), (2, .int q), (0, .ref x), (1, .int k)]) S.1 S.2.1 dX8_seenFrom_24 hl (by decide) rfl (fun ls hl => ?_)
      refine lv_iconst (v := (0)) S.1 S.2.1 dX8_seenFrom_26 (by decide) ?_
      refine lv_istore (lv' := [(5, .int 0), (4, .int x_205), (3, .int i), (2, .int q), (0, .ref x), (1, .int k)]) S.1 S.2.1 dX8_seenFrom_27 hl (by decide) rfl (fun ls hl => ?_)
      refine lp_seen2 l D cI cZ cC cS sq x vw vN k sa tp ct dr rd im vu wh mk ak lt fi vS vM vF vn hrg_vn hk i (by first | with_reducible assumption | decide | (and_intros <;> first | with_reducible assumption | (intros; refine Int.le_antisymm ?_ ?_ <;> omega) | omega) | assumption | (rw [show Int32.toInt 0 = 0 from rfl]; omega)) X hK hT hA (fun j_206 q_207 at__208 hi_209 hi_210 hi_211 H locs ls hP hD hS hl => ?_) _ (0) q x_205 (by first | with_reducible assumption | assumption | omega | decide | (rw [show Int32.toInt 0 = 0 from rfl]; omega)) (by first | with_reducible assumption | decide | (and_intros <;> first | with_reducible assumption | (intros; refine Int.le_antisymm ?_ ?_ <;> omega) | omega) | assumption | (rw [show Int32.toInt 0 = 0 from rfl]; omega)) (by first | with_reducible assumption | decide | (and_intros <;> first | with_reducible assumption | (intros; refine Int.le_antisymm ?_ ?_ <;> omega) | omega) | assumption | (rw [show Int32.toInt 0 = 0 from rfl]; omega)) (Nat.lt_succ_self _) H _ ls hP hD hS (lv_sub hl [0, 1, 2, 3, 4, 5] rfl)
      obtain ⟨x_212, ex_212⟩ : ∃ y : Int32, y = i + Int32.ofInt (1) := ⟨_, rfl⟩
      refine lv_iinc (v := x_212) (lv' := [(3, .int x_212), (5, .int j_206), (4, .int at__208), (2, .int q_207), (0, .ref x), (1, .int k)]) S.1 S.2.1 dX8_seenFrom_68 hl (k := 2) rfl ex_212.symm (by decide) rfl (fun ls hl => ?_)
      have tx_212 : x_212.toInt = i.toInt + (1) := addI (A := i.toInt) (B := 1) ex_212 rfl rfl (by  omega) (by  omega)
      refine lv_goto (tgt := 4) S.1 S.2.1 dX8_seenFrom_71 (by decide) ?_
      exact ih x_212 q_207 (by first | with_reducible assumption | assumption | omega | decide | (rw [show Int32.toInt 0 = 0 from rfl]; omega)) (by first | with_reducible assumption | decide | (and_intros <;> first | with_reducible assumption | (intros; refine Int.le_antisymm ?_ ?_ <;> omega) | omega) | assumption | (rw [show Int32.toInt 0 = 0 from rfl]; omega)) (by first | (and_intros <;> first | with_reducible assumption | (refine Int.le_antisymm ?_ ?_ <;> omega) | omega) | omega) H _ ls hP hD hS (lv_sub hl [0, 3, 4, 5] rfl)
set_option maxHeartbeats 4000000 in
set_option maxRecDepth 100000 in
theorem s_X8_seenFrom (l : Launch) (D : va_G) (cI cZ cC cS : ClassId) (sq : Nat → Nat) (sz : Nat) (x : Nat) (vw : Nat) (vN : Nat) (k : Int32) (sa : Nat) (tp : Nat) (ct : Nat) (dr : Nat) (rd : Nat) (im : Nat) (vu : Nat) (wh : Nat) (mk : Nat) (ak : Nat) (lt : Int32) (fi : Int32) (vS : Nat) (vM : Nat) (vF : Nat) (vn : Nat → Int32) (hrg_vn : rng vn 640 (-1) (79)) (hk : 0 ≤ k.toInt ∧ k.toInt < 80) : mI l yX8_seenFrom wsX8_seenFrom 0 0 D (tyW cI cZ cC cS) sq [(x, .inr (8, [.ref sa, .ref tp, .ref ct, .ref dr, .ref rd, .ref im, .ref vw, .ref vu, .ref wh, .ref mk, .ref ak, .int lt, .int fi])), (vw, .inr (6, [.ref vN, .ref vS, .ref vM, .ref vF])), (vN, .inl (cI, 640, .inl vn))] sz [.ref x, .int k] (fun r w => (w = [(x, .inr (8, [.ref sa, .ref tp, .ref ct, .ref dr, .ref rd, .ref im, .ref vw, .ref vu, .ref wh, .ref mk, .ref ak, .int lt, .int fi])), (vw, .inr (6, [.ref vN, .ref vS, .ref vM, .ref vF])), (vN, .inl (cI, 640, .inl vn))])) := by
  refine b_metI (cc := cX8_seenFrom) (maxL := 6) (ret := (some .int)) (by decide) rfl (Nat.le_of_ble_eq_true rfl) ?_
  intro p e s m below meth c ls A H X hsz hP hK hT hD hA hS hl
  have S : CallFix p m c cX8_seenFrom 6 s ([.ref x, .int k] : List Value).toArray wsX8_seenFrom RX8 := X.1
  have hl : lv_has ls 6 [(0, .ref x), (1, .int k)] := hl
  refine lv_iconst (v := (0)) S.1 S.2.1 dX8_seenFrom_0 (by decide) ?_
  refine lv_istore_n (lv' := [(2, .int 0), (0, .ref x), (1, .int k)]) S.1 S.2.1 dX8_seenFrom_1 rfl hl (by decide) rfl (fun ls hl => ?_)
  refine lv_iconst (v := (0)) S.1 S.2.1 dX8_seenFrom_2 (by decide) ?_
  refine lv_istore_n (lv' := [(3, .int 0), (2, .int 0), (0, .ref x), (1, .int k)]) S.1 S.2.1 dX8_seenFrom_3 rfl hl (by decide) rfl (fun ls hl => ?_)
  refine lp_seen1 l D cI cZ cC cS sq x vw vN k sa tp ct dr rd im vu wh mk ak lt fi vS vM vF vn hrg_vn hk X hK hT hA (fun i_1 q_2 hi_3 hi_4 H locs ls hP hD hS hl => ?_) _ (0) (0) (by first | with_reducible assumption | assumption | omega | decide | (rw [show Int32.toInt 0 = 0 from rfl]; omega)) (by first | with_reducible assumption | decide | (and_intros <;> first | with_reducible assumption | (intros; refine Int.le_antisymm ?_ ?_ <;> omega) | omega) | assumption | (rw [show Int32.toInt 0 = 0 from rfl]; omega)) (Nat.lt_succ_self _) H _ ls hP hD hS (lv_sub hl [0, 1, 2, 3] rfl)
  refine lv_iload_n S.1 S.2.1 dX8_seenFrom_74 rfl (lv_at hl 1 rfl) ?_
  exact b_iret S.1 S.2.1 X.2.1 X.2.2.1 hP hD hS rfl dX8_seenFrom_75
set_option maxHeartbeats 4000000 in
set_option maxRecDepth 100000 in
theorem lp_mostB {p : Program} (l : Launch) {e : Env} {s : State} {m : MethodId} {below : List Frame} {meth : Method} {c : Code} (D : va_G) (cI cZ cC cS : ClassId) (sq : Nat → Nat) (x : Nat) (ct : Nat) (aCells : Nat) (vw : Nat) (vN : Nat) (sa : Nat) (tp : Nat) (dr : Nat) (rd : Nat) (im : Nat) (vu : Nat) (wh : Nat) (mk : Nat) (ak : Nat) (lt : Int32) (fi : Int32) (cw : Int32) (ch : Int32) (cp : Int32) (aPrices : Nat) (aFree : Nat) (aPlaces : Nat) (aHomes : Nat) (aManners : Nat) (aGone : Nat) (aPaid : Nat) (aBlinks : Nat) (fc : Nat → Int32) (vS : Nat) (vM : Nat) (vF : Nat) (vn : Nat → Int32) (hrg_fc : rng fc 80 (-1) (8)) (hrg_vn : rng vn 640 (-1) (79)) (hw : 0 ≤ cw.toInt ∧ cw.toInt ≤ 10) (hh : 0 ≤ ch.toInt ∧ ch.toInt ≤ 8) {A : Nat → Prop} (X : bX p s m meth c cX8_mostBeautiful 5 wsX8_mostBeautiful yX8_mostBeautiful (some .int) [.ref x]) (hK : kW D (tyW cI cZ cC cS) sq s) (hT : sT sq A s s.heap) (hA : ∀ q, s.heap.size ≤ q → A q) (K : ∀ (i : Int32) (be : Int32) (ms_ : Int32), (rng fc 80 (-1) (8)) → (rng vn 640 (-1) (79)) → (0 ≤ i.toInt ∧ i.toInt ≤ 80) → ∀ (H : Heap) (locs : List Loc) (ls : Array Slot), va_P D vwCl [(x, .inr (8, [.ref sa, .ref tp, .ref ct, .ref dr, .ref rd, .ref im, .ref vw, .ref vu, .ref wh, .ref mk, .ref ak, .int lt, .int fi])), (ct, .inr (1, [.int cw, .int ch, .int cp, .ref aCells, .ref aPrices, .ref aFree, .ref aPlaces, .ref aHomes, .ref aManners, .ref aGone, .ref aPaid, .ref aBlinks])), (aCells, .inl (cI, 80, .inl fc)), (vw, .inr (6, [.ref vN, .ref vS, .ref vM, .ref vF])), (vN, .inl (cI, 640, .inl vn))] H → va_D A [(x, .inr (8, [.ref sa, .ref tp, .ref ct, .ref dr, .ref rd, .ref im, .ref vw, .ref vu, .ref wh, .ref mk, .ref ak, .int lt, .int fi])), (ct, .inr (1, [.int cw, .int ch, .int cp, .ref aCells, .ref aPrices, .ref aFree, .ref aPlaces, .ref aHomes, .ref aManners, .ref aGone, .ref aPaid, .ref aBlinks])), (aCells, .inl (cI, 80, .inl fc)), (vw, .inr (6, [.ref vN, .ref vS, .ref vM, .ref vF])), (vN, .inl (cI, 640, .inl vn))] → va_S A s.heap H locs → lv_has ls 5 [(3, .int i), (2, .int ms_), (1, .int be), (0, .ref x)] → W p l e (rmW 2 80 0 0) s m ([.ref x] : List Value).toArray below meth c H locs 0 0 (MQ below (va_Qi (fun r w => (w = [(x, .inr (8, [.ref sa, .ref tp, .ref ct, .ref dr, .ref rd, .ref im, .ref vw, .ref vu, .ref wh, .ref mk, .ref ak, .int lt, .int fi])), (ct, .inr (1, [.int cw, .int ch, .int cp, .ref aCells, .ref aPrices, .ref aFree, .ref aPlaces, .ref aHomes, .ref aManners, .ref aGone, .ref aPaid, .ref aBlinks])), (aCells, .inl (cI, 80, .inl fc)), (vw, .inr (6, [.ref vN, .ref vS, .ref vM, .ref vF])), (vN, .inl (cI, 640, .inl vn))])) (wD D A) A) ([.ref x] : List Value).toArray s 0 0 A) (F0 m 51 ls [])) : ∀ (mN : Nat) (i : Int32) (be : Int32) (ms_ : Int32), (rng fc 80 (-1) (8)) → (rng vn 640 (-1) (79)) → (0 ≤ i.toInt ∧ i.toInt ≤ 80) → ((80 - i.toInt).toNat < mN) → ∀ (H : Heap) (locs : List Loc) (ls : Array Slot), va_P D vwCl [(x, .inr (8, [.ref sa, .ref tp, .ref ct, .ref dr, .ref rd, .ref im, .ref vw, .ref vu, .ref wh, .ref mk, .ref ak, .int lt, .int fi])), (ct, .inr (1, [.int cw, .int ch, .int cp, .ref aCells, .ref aPrices, .ref aFree, .ref aPlaces, .ref aHomes, .ref aManners, .ref aGone, .ref aPaid, .ref aBlinks])), (aCells, .inl (cI, 80, .inl fc)), (vw, .inr (6, [.ref vN, .ref vS, .ref vM, .ref vF])), (vN, .inl (cI, 640, .inl vn))] H → va_D A [(x, .inr (8, [.ref sa, .ref tp, .ref ct, .ref dr, .ref rd, .ref im, .ref vw, .ref vu, .ref wh, .ref mk, .ref ak, .int lt, .int fi])), (ct, .inr (1, [.int cw, .int ch, .int cp, .ref aCells, .ref aPrices, .ref aFree, .ref aPlaces, .ref aHomes, .ref aManners, .ref aGone, .ref aPaid, .ref aBlinks])), (aCells, .inl (cI, 80, .inl fc)), (vw, .inr (6, [.ref vN, .ref vS, .ref vM, .ref vF])), (vN, .inl (cI, 640, .inl vn))] → va_S A s.heap H locs → lv_has ls 5 [(3, .int i), (2, .int ms_), (1, .int be), (0, .ref x)] → W p l e (rmW 2 80 0 0) s m ([.ref x] : List Value).toArray below meth c H locs 0 0 (MQ below (va_Qi (fun r w => (w = [(x, .inr (8, [.ref sa, .ref tp, .ref ct, .ref dr, .ref rd, .ref im, .ref vw, .ref vu, .ref wh, .ref mk, .ref ak, .int lt, .int fi])), (ct, .inr (1, [.int cw, .int ch, .int cp, .ref aCells, .ref aPrices, .ref aFree, .ref aPlaces, .ref aHomes, .ref aManners, .ref aGone, .ref aPaid, .ref aBlinks])), (aCells, .inl (cI, 80, .inl fc)), (vw, .inr (6, [.ref vN, .ref vS, .ref vM, .ref vF])), (vN, .inl (cI, 640, .inl vn))])) (wD D A) A) ([.ref x] : List Value).toArray s 0 0 A) (F0 m 6 ls []) := by
  have S : CallFix p m c cX8_mostBeautiful 5 s ([.ref x] : List Value).toArray wsX8_mostBeautiful RX8 := X.1
  have iX8 := jX8_mostBeautiful_X8
  intro mN
  induction mN with
  | zero => intro i be ms_ hrg_fc hrg_vn hi hm; exact absurd hm (Nat.not_lt_zero _)
  | succ mN ih =>
    intro i be ms_ hrg_fc hrg_vn hi hm H locs ls hP hD hS hl
    refine lv_iload_n S.1 S.2.1 dX8_mostBeautiful_6 rfl (lv_at hl 0 rfl) ?_
    refine lv_bipush (v := (80)) S.1 S.2.1 dX8_mostBeautiful_7 (by decide) ?_
    refine lv_icmp_ge (tgt := 51) S.1 S.2.1 dX8_mostBeautiful_9 (by decide) (fun c_101 => ?_) (fun c_101 => ?_)
    · rw [le2 (a := 80) (b := i) (A := 80) (B := i.toInt) rfl rfl] at c_101
      exact K i be ms_ (by first | with_reducible assumption | assumption | omega | decide | (rw [show Int32.toInt 0 = 0 from rfl]; omega)) (by first | with_reducible assumption | assumption | omega | decide | (rw [show Int32.toInt 0 = 0 from rfl]; omega)) (by first | with_reducible assumption | decide | (and_intros <;> first | with_reducible assumption | (intros; refine Int.le_antisymm ?_ ?_ <;> omega) | omega) | assumption | (rw [show Int32.toInt 0 = 0 from rfl]; omega)) H _ ls hP hD hS (lv_sub hl [0, 1, 2, 3] rfl)
    · rw [le2 (a := 80) (b := i) (A := 80) (B := i.toInt) rfl rfl] at c_101
      refine lv_aload_n S.1 S.2.1 dX8_mostBeautiful_12 rfl (lv_at hl 3 rfl) ?_
      refine b_get (v := .ref ct) S iX8 hK hP 0 rfl rfl 2 (by decide) (by decide +kernel) rfl dX8_mostBeautiful_13 ?_
      refine lv_iload_n S.1 S.2.1 dX8_mostBeautiful_16 rfl (lv_at hl 0 rfl) ?_
      refine b_ai (wr := [(x, .inr (8, [.ref sa, .ref tp, .ref ct, .ref dr, .ref rd, .ref im, .ref vw, .ref vu, .ref wh, .ref mk, .ref ak, .int lt, .int fi])), (vw, .inr (6, [.ref vN, .ref vS, .ref vM, .ref vF])), (vN, .inl (cI, 640, .inl vn))]) (b_runV (q0 := 1) (ci := 1) (As := [.int i]) (s_X1_isOpen l D cI cZ cC cS sq H.size ct aCells i cw ch cp aPrices aFree aPlaces aHomes aManners aGone aPaid aBlinks fc (by first | with_reducible assumption | assumption | omega | decide | (rw [show Int32.toInt 0 = 0 from rfl]; omega)) (by first | with_reducible assumption | decide | (and_intros <;> first | with_reducible assumption | (intros; refine Int.le_antisymm ?_ ?_ <;> omega) | omega) | assumption | (rw [show Int32.toInt 0 = 0 from rfl]; omega)) (by first | with_reducible assumption | decide | (and_intros <;> first | with_reducible assumption | (intros; refine Int.le_antisymm ?_ ?_ <;> omega) | omega) | assumption | (rw [show Int32.toInt 0 = 0 from rfl]; omega))) S gX8_mostBeautiful_X1_isOpen rfl hdV_X1_isOpen ⟨Nat.le_of_ble_eq_true rfl, Nat.le_of_ble_eq_true rfl⟩ ⟨Nat.le_of_ble_eq_true rfl, Nat.le_of_ble_eq_true rfl⟩ hK hT hS hA hP hD rfl rfl [1, 2] rfl (by decide) rfl hl.1 rfl (Nat.le_of_ble_eq_true rfl) dX8_mostBeautiful_17) hP hD hS hA [1, 2] [0, 3, 4] rfl rfl (by decide) (by decide) (fun r_102 w_103 H locs hw_104 hP hD hS => ?_)
      rcases hw_104 with ⟨hf_105, hf_106, rfl, rfl⟩ | ⟨hf_107, rfl, rfl⟩
      · have hP : va_P D vwCl [(x, .inr (8, [.ref sa, .ref tp, .ref ct, .ref dr, .ref rd, .ref im, .ref vw, .ref vu, .ref wh, .ref mk, .ref ak, .int lt, .int fi])), (vw, .inr (6, [.ref vN, .ref vS, .ref vM, .ref vF])), (vN, .inl (cI, 640, .inl vn)), (ct, .inr (1, [.int cw, .int ch, .int cp, .ref aCells, .ref aPrices, .ref aFree, .ref aPlaces, .ref aHomes, .ref aManners, .ref aGone, .ref aPaid, .ref aBlinks])), (aCells, .inl (cI, 80, .inl fc))] H := hP
        have hD : va_D A [(x, .inr (8, [.ref sa, .ref tp, .ref ct, .ref dr, .ref rd, .ref im, .ref vw, .ref vu, .ref wh, .ref mk, .ref ak, .int lt, .int fi])), (vw, .inr (6, [.ref vN, .ref vS, .ref vM, .ref vF])), (vN, .inl (cI, 640, .inl vn)), (ct, .inr (1, [.int cw, .int ch, .int cp, .ref aCells, .ref aPrices, .ref aFree, .ref aPlaces, .ref aHomes, .ref aManners, .ref aGone, .ref aPaid, .ref aBlinks])), (aCells, .inl (cI, 80, .inl fc))] := hD
        refine lv_if_eq (tgt := 31) S.1 S.2.1 dX8_mostBeautiful_20 (by decide) (fun c_108 => absurd c_108 (by decide)) (fun c_108 => ?_)
        refine lv_aload_n S.1 S.2.1 dX8_mostBeautiful_23 rfl (lv_at hl 3 rfl) ?_
        refine lv_iload_n S.1 S.2.1 dX8_mostBeautiful_24 rfl (lv_at hl 0 rfl) ?_
        refine b_ai (wr := [(ct, .inr (1, [.int cw, .int ch, .int cp, .ref aCells, .ref aPrices, .ref aFree, .ref aPlaces, .ref aHomes, .ref aManners, .ref aGone, .ref aPaid, .ref aBlinks])), (aCells, .inl (cI, 80, .inl fc))]) (b_runV (q0 := 0) (ci := 8) (As := [.int i]) (s_X8_seenFrom l D cI cZ cC cS sq H.size x vw vN i sa tp ct dr rd im vu wh mk ak lt fi vS vM vF vn (by first | with_reducible assumption | assumption | omega | decide | (rw [show Int32.toInt 0 = 0 from rfl]; omega)) (by first | with_reducible assumption | decide | (and_intros <;> first | with_reducible assumption | (intros; refine Int.le_antisymm ?_ ?_ <;> omega) | omega) | assumption | (rw [show Int32.toInt 0 = 0 from rfl]; omega))) S gX8_mostBeautiful_X8_seenFrom rfl hdV_X8_seenFrom ⟨Nat.le_of_ble_eq_true rfl, Nat.le_of_ble_eq_true rfl⟩ ⟨Nat.le_of_ble_eq_true rfl, Nat.le_of_ble_eq_true rfl⟩ hK hT hS hA hP hD rfl rfl [0, 1, 2] rfl (by decide) rfl hl.1 rfl (Nat.le_of_ble_eq_true rfl) dX8_mostBeautiful_25) hP hD hS hA [0, 1, 2] [3, 4] rfl rfl (by decide) (by decide) (fun r_109 w_110 H locs hw_111 hP hD hS => ?_)
        obtain rfl := hw_111
        have hP : va_P D vwCl [(ct, .inr (1, [.int cw, .int ch, .int cp, .ref aCells, .ref aPrices, .ref aFree, .ref aPlaces, .ref aHomes, .ref aManners, .ref aGone, .ref aPaid, .ref aBlinks])), (aCells, .inl (cI, 80, .inl fc)), (x, .inr (8, [.ref sa, .ref tp, .ref ct, .ref dr, .ref rd, .ref im, .ref vw, .ref vu, .ref wh, .ref mk, .ref ak, .int lt, .int fi])), (vw, .inr (6, [.ref vN, .ref vS, .ref vM, .ref vF])), (vN, .inl (cI, 640, .inl vn))] H := hP
        have hD : va_D A [(ct, .inr (1, [.int cw, .int ch, .int cp, .ref aCells, .ref aPrices, .ref aFree, .ref aPlaces, .ref aHomes, .ref aManners, .ref aGone, .ref aPaid, .ref aBlinks])), (aCells, .inl (cI, 80, .inl fc)), (x, .inr (8, [.ref sa, .ref tp, .ref ct, .ref dr, .ref rd, .ref im, .ref vw, .ref vu, .ref wh, .ref mk, .ref ak, .int lt, .int fi])), (vw, .inr (6, [.ref vN, .ref vS, .ref vM, .ref vF])), (vN, .inl (cI, 640, .inl vn))] := hD
        refine lv_goto (tgt := 32) S.1 S.2.1 dX8_mostBeautiful_28 (by decide) ?_
        refine lv_istore (lv' := [(4, .int r_109), (3, .int i), (2, .int ms_), (1, .int be), (0, .ref x)]) S.1 S.2.1 dX8_mostBeautiful_32 hl (by decide) rfl (fun ls hl => ?_)
        refine lv_iload S.1 S.2.1 dX8_mostBeautiful_34 (lv_at hl 0 rfl) ?_
        refine lv_iload_n S.1 S.2.1 dX8_mostBeautiful_36 rfl (lv_at hl 2 rfl) ?_
        refine lv_icmp_le (tgt := 45) S.1 S.2.1 dX8_mostBeautiful_37 (by decide) (fun c_112 => ?_) (fun c_112 => ?_)
        · rw [le2 (a := r_109) (b := ms_) (A := r_109.toInt) (B := ms_.toInt) rfl rfl] at c_112
          obtain ⟨x_113, ex_113⟩ : ∃ y : Int32, y = i + Int32.ofInt (1) := ⟨_, rfl⟩
          refine lv_iinc (v := x_113) (lv' := [(3, .int x_113), (4, .int r_109), (2, .int ms_), (1, .int be), (0, .ref x)]) S.1 S.2.1 dX8_mostBeautiful_45 hl (k := 1) rfl ex_113.symm (by decide) rfl (fun ls hl => ?_)
          have tx_113 : x_113.toInt = i.toInt + (1) := addI (A := i.toInt) (B := 1) ex_113 rfl rfl (by  omega) (by  omega)
          refine lv_goto (tgt := 6) S.1 S.2.1 dX8_mostBeautiful_48 (by decide) ?_
          have hP := hP.sub (ws' := [(x, .inr (8, [.ref sa, .ref tp, .ref ct, .ref dr, .ref rd, .ref im, .ref vw, .ref vu, .ref wh, .ref mk, .ref ak, .int lt, .int fi])), (ct, .inr (1, [.int cw, .int ch, .int cp, .ref aCells, .ref aPrices, .ref aFree, .ref aPlaces, .ref aHomes, .ref aManners, .ref aGone, .ref aPaid, .ref aBlinks])), (aCells, .inl (cI, 80, .inl fc)), (vw, .inr (6, [.ref vN, .ref vS, .ref vM, .ref vF])), (vN, .inl (cI, 640, .inl vn))]) [2, 0, 1, 3, 4] rfl
          have hD := hD.sub (ws' := [(x, .inr (8, [.ref sa, .ref tp, .ref ct, .ref dr, .ref rd, .ref im, .ref vw, .ref vu, .ref wh, .ref mk, .ref ak, .int lt, .int fi])), (ct, .inr (1, [.int cw, .int ch, .int cp, .ref aCells, .ref aPrices, .ref aFree, .ref aPlaces, .ref aHomes, .ref aManners, .ref aGone, .ref aPaid, .ref aBlinks])), (aCells, .inl (cI, 80, .inl fc)), (vw, .inr (6, [.ref vN, .ref vS, .ref vM, .ref vF])), (vN, .inl (cI, 640, .inl vn))]) [2, 0, 1, 3, 4] (by decide) rfl
          exact ih x_113 be ms_ (by first | with_reducible assumption | assumption | omega | decide | (rw [show Int32.toInt 0 = 0 from rfl]; omega)) (by first | with_reducible assumption | assumption | omega | decide | (rw [show Int32.toInt 0 = 0 from rfl]; omega)) (by first | with_reducible assumption | decide | (and_intros <;> first | with_reducible assumption | (intros; refine Int.le_antisymm ?_ ?_ <;> omega) | omega) | assumption | (rw [show Int32.toInt 0 = 0 from rfl]; omega)) (by first | (and_intros <;> first | with_reducible assumption | (refine Int.le_antisymm ?_ ?_ <;> omega) | omega) | omega) H _ ls hP hD hS (lv_sub hl [0, 2, 3, 4] rfl)
        · rw [le2 (a := r_109) (b := ms_) (A := r_109.toInt) (B := ms_.toInt) rfl rfl] at c_112
          refine lv_iload_n S.1 S.2.1 dX8_mostBeautiful_40 rfl (lv_at hl 1 rfl) ?_
          refine lv_istore_n (lv' := [(1, .int i), (4, .int r_109), (3, .int i), (2, .int ms_), (0, .ref x)]) S.1 S.2.1 dX8_mostBeautiful_41 rfl hl (by decide) rfl (fun ls hl => ?_)
          refine lv_iload S.1 S.2.1 dX8_mostBeautiful_42 (lv_at hl 1 rfl) ?_
          refine lv_istore_n (lv' := [(2, .int r_109), (1, .int i), (4, .int r_109), (3, .int i), (0, .ref x)]) S.1 S.2.1 dX8_mostBeautiful_44 rfl hl (by decide) rfl (fun ls hl => ?_)
          obtain ⟨x_114, ex_114⟩ : ∃ y : Int32, y = i + Int32.ofInt (1) := ⟨_, rfl⟩
          refine lv_iinc (v := x_114) (lv' := [(3, .int x_114), (2, .int r_109), (1, .int i), (4, .int r_109), (0, .ref x)]) S.1 S.2.1 dX8_mostBeautiful_45 hl (k := 3) rfl ex_114.symm (by decide) rfl (fun ls hl => ?_)
          have tx_114 : x_114.toInt = i.toInt + (1) := addI (A := i.toInt) (B := 1) ex_114 rfl rfl (by  omega) (by  omega)
          refine lv_goto (tgt := 6) S.1 S.2.1 dX8_mostBeautiful_48 (by decide) ?_
          have hP := hP.sub (ws' := [(x, .inr (8, [.ref sa, .ref tp, .ref ct, .ref dr, .ref rd, .ref im, .ref vw, .ref vu, .ref wh, .ref mk, .ref ak, .int lt, .int fi])), (ct, .inr (1, [.int cw, .int ch, .int cp, .ref aCells, .ref aPrices, .ref aFree, .ref aPlaces, .ref aHomes, .ref aManners, .ref aGone, .ref aPaid, .ref aBlinks])), (aCells, .inl (cI, 80, .inl fc)), (vw, .inr (6, [.ref vN, .ref vS, .ref vM, .ref vF])), (vN, .inl (cI, 640, .inl vn))]) [2, 0, 1, 3, 4] rfl
          have hD := hD.sub (ws' := [(x, .inr (8, [.ref sa, .ref tp, .ref ct, .ref dr, .ref rd, .ref im, .ref vw, .ref vu, .ref wh, .ref mk, .ref ak, .int lt, .int fi])), (ct, .inr (1, [.int cw, .int ch, .int cp, .ref aCells, .ref aPrices, .ref aFree, .ref aPlaces, .ref aHomes, .ref aManners, .ref aGone, .ref aPaid, .ref aBlinks])), (aCells, .inl (cI, 80, .inl fc)), (vw, .inr (6, [.ref vN, .ref vS, .ref vM, .ref vF])), (vN, .inl (cI, 640, .inl vn))]) [2, 0, 1, 3, 4] (by decide) rfl
          exact ih x_114 i r_109 (by first | with_reducible assumption | assumption | omega | decide | (rw [show Int32.toInt 0 = 0 from rfl]; omega)) (by first | with_reducible assumption | assumption | omega | decide | (rw [show Int32.toInt 0 = 0 from rfl]; omega)) (by first | with_reducible assumption | decide | (and_intros <;> first | with_reducible assumption | (intros; refine Int.le_antisymm ?_ ?_ <;> omega) | omega) | assumption | (rw [show Int32.toInt 0 = 0 from rfl]; omega)) (by first | (and_intros <;> first | with_reducible assumption | (refine Int.le_antisymm ?_ ?_ <;> omega) | omega) | omega) H _ ls hP hD hS (lv_sub hl [0, 1, 2, 4] rfl)
      · have hP : va_P D vwCl [(x, .inr (8, [.ref sa, .ref tp, .ref ct, .ref dr, .ref rd, .ref im, .ref vw, .ref vu, .ref wh, .ref mk, .ref ak, .int lt, .int fi])), (vw, .inr (6, [.ref vN, .ref vS, .ref vM, .ref vF])), (vN, .inl (cI, 640, .inl vn)), (ct, .inr (1, [.int cw, .int ch, .int cp, .ref aCells, .ref aPrices, .ref aFree, .ref aPlaces, .ref aHomes, .ref aManners, .ref aGone, .ref aPaid, .ref aBlinks])), (aCells, .inl (cI, 80, .inl fc))] H := hP
        have hD : va_D A [(x, .inr (8, [.ref sa, .ref tp, .ref ct, .ref dr, .ref rd, .ref im, .ref vw, .ref vu, .ref wh, .ref mk, .ref ak, .int lt, .int fi])), (vw, .inr (6, [.ref vN, .ref vS, .ref vM, .ref vF])), (vN, .inl (cI, 640, .inl vn)), (ct, .inr (1, [.int cw, .int ch, .int cp, .ref aCells, .ref aPrices, .ref aFree, .ref aPlaces, .ref aHomes, .ref aManners, .ref aGone, .ref aPaid, .ref aBlinks])), (aCells, .inl (cI, 80, .inl fc))] := hD
        refine lv_if_eq (tgt := 31) S.1 S.2.1 dX8_mostBeautiful_20 (by decide) (fun c_115 => ?_) (fun c_115 => absurd c_115 (by decide))
        refine lv_iconst (v := (-1)) S.1 S.2.1 dX8_mostBeautiful_31 (by decide) ?_
        refine lv_istore (lv' := [(4, .int (-1)), (3, .int i), (2, .int ms_), (1, .int be), (0, .ref x)]) S.1 S.2.1 dX8_mostBeautiful_32 hl (by decide) rfl (fun ls hl => ?_)
        refine lv_iload S.1 S.2.1 dX8_mostBeautiful_34 (lv_at hl 0 rfl) ?_
        refine lv_iload_n S.1 S.2.1 dX8_mostBeautiful_36 rfl (lv_at hl 2 rfl) ?_
        refine lv_icmp_le (tgt := 45) S.1 S.2.1 dX8_mostBeautiful_37 (by decide) (fun c_116 => ?_) (fun c_116 => ?_)
        · rw [le2 (a := (-1)) (b := ms_) (A := -1) (B := ms_.toInt) rfl rfl] at c_116
          obtain ⟨x_117, ex_117⟩ : ∃ y : Int32, y = i + Int32.ofInt (1) := ⟨_, rfl⟩
          refine lv_iinc (v := x_117) (lv' := [(3, .int x_117), (4, .int (-1)), (2, .int ms_), (1, .int be), (0, .ref x)]) S.1 S.2.1 dX8_mostBeautiful_45 hl (k := 1) rfl ex_117.symm (by decide) rfl (fun ls hl => ?_)
          have tx_117 : x_117.toInt = i.toInt + (1) := addI (A := i.toInt) (B := 1) ex_117 rfl rfl (by  omega) (by  omega)
          refine lv_goto (tgt := 6) S.1 S.2.1 dX8_mostBeautiful_48 (by decide) ?_
          have hP := hP.sub (ws' := [(x, .inr (8, [.ref sa, .ref tp, .ref ct, .ref dr, .ref rd, .ref im, .ref vw, .ref vu, .ref wh, .ref mk, .ref ak, .int lt, .int fi])), (ct, .inr (1, [.int cw, .int ch, .int cp, .ref aCells, .ref aPrices, .ref aFree, .ref aPlaces, .ref aHomes, .ref aManners, .ref aGone, .ref aPaid, .ref aBlinks])), (aCells, .inl (cI, 80, .inl fc)), (vw, .inr (6, [.ref vN, .ref vS, .ref vM, .ref vF])), (vN, .inl (cI, 640, .inl vn))]) [0, 3, 4, 1, 2] rfl
          have hD := hD.sub (ws' := [(x, .inr (8, [.ref sa, .ref tp, .ref ct, .ref dr, .ref rd, .ref im, .ref vw, .ref vu, .ref wh, .ref mk, .ref ak, .int lt, .int fi])), (ct, .inr (1, [.int cw, .int ch, .int cp, .ref aCells, .ref aPrices, .ref aFree, .ref aPlaces, .ref aHomes, .ref aManners, .ref aGone, .ref aPaid, .ref aBlinks])), (aCells, .inl (cI, 80, .inl fc)), (vw, .inr (6, [.ref vN, .ref vS, .ref vM, .ref vF])), (vN, .inl (cI, 640, .inl vn))]) [0, 3, 4, 1, 2] (by decide) rfl
          exact ih x_117 be ms_ (by first | with_reducible assumption | assumption | omega | decide | (rw [show Int32.toInt 0 = 0 from rfl]; omega)) (by first | with_reducible assumption | assumption | omega | decide | (rw [show Int32.toInt 0 = 0 from rfl]; omega)) (by first | with_reducible assumption | decide | (and_intros <;> first | with_reducible assumption | (intros; refine Int.le_antisymm ?_ ?_ <;> omega) | omega) | assumption | (rw [show Int32.toInt 0 = 0 from rfl]; omega)) (by first | (and_intros <;> first | with_reducible assumption | (refine Int.le_antisymm ?_ ?_ <;> omega) | omega) | omega) H _ ls hP hD hS (lv_sub hl [0, 2, 3, 4] rfl)
        · rw [le2 (a := (-1)) (b := ms_) (A := -1) (B := ms_.toInt) rfl rfl] at c_116
          refine lv_iload_n S.1 S.2.1 dX8_mostBeautiful_40 rfl (lv_at hl 1 rfl) ?_
          refine lv_istore_n (lv' := [(1, .int i), (4, .int (-1)), (3, .int i), (2, .int ms_), (0, .ref x)]) S.1 S.2.1 dX8_mostBeautiful_41 rfl hl (by decide) rfl (fun ls hl => ?_)
          refine lv_iload S.1 S.2.1 dX8_mostBeautiful_42 (lv_at hl 1 rfl) ?_
          refine lv_istore_n (lv' := [(2, .int (-1)), (1, .int i), (4, .int (-1)), (3, .int i), (0, .ref x)]) S.1 S.2.1 dX8_mostBeautiful_44 rfl hl (by decide) rfl (fun ls hl => ?_)
          obtain ⟨x_118, ex_118⟩ : ∃ y : Int32, y = i + Int32.ofInt (1) := ⟨_, rfl⟩
          refine lv_iinc (v := x_118) (lv' := [(3, .int x_118), (2, .int (-1)), (1, .int i), (4, .int (-1)), (0, .ref x)]) S.1 S.2.1 dX8_mostBeautiful_45 hl (k := 3) rfl ex_118.symm (by decide) rfl (fun ls hl => ?_)
          have tx_118 : x_118.toInt = i.toInt + (1) := addI (A := i.toInt) (B := 1) ex_118 rfl rfl (by  omega) (by  omega)
          refine lv_goto (tgt := 6) S.1 S.2.1 dX8_mostBeautiful_48 (by decide) ?_
          have hP := hP.sub (ws' := [(x, .inr (8, [.ref sa, .ref tp, .ref ct, .ref dr, .ref rd, .ref im, .ref vw, .ref vu, .ref wh, .ref mk, .ref ak, .int lt, .int fi])), (ct, .inr (1, [.int cw, .int ch, .int cp, .ref aCells, .ref aPrices, .ref aFree, .ref aPlaces, .ref aHomes, .ref aManners, .ref aGone, .ref aPaid, .ref aBlinks])), (aCells, .inl (cI, 80, .inl fc)), (vw, .inr (6, [.ref vN, .ref vS, .ref vM, .ref vF])), (vN, .inl (cI, 640, .inl vn))]) [0, 3, 4, 1, 2] rfl
          have hD := hD.sub (ws' := [(x, .inr (8, [.ref sa, .ref tp, .ref ct, .ref dr, .ref rd, .ref im, .ref vw, .ref vu, .ref wh, .ref mk, .ref ak, .int lt, .int fi])), (ct, .inr (1, [.int cw, .int ch, .int cp, .ref aCells, .ref aPrices, .ref aFree, .ref aPlaces, .ref aHomes, .ref aManners, .ref aGone, .ref aPaid, .ref aBlinks])), (aCells, .inl (cI, 80, .inl fc)), (vw, .inr (6, [.ref vN, .ref vS, .ref vM, .ref vF])), (vN, .inl (cI, 640, .inl vn))]) [0, 3, 4, 1, 2] (by decide) rfl
          have lqm1 : Int32.toInt (-1) = -1 := by decide
          exact ih x_118 i (-1) (by first | with_reducible assumption | assumption | omega | decide | (rw [show Int32.toInt 0 = 0 from rfl]; omega)) (by first | with_reducible assumption | assumption | omega | decide | (rw [show Int32.toInt 0 = 0 from rfl]; omega)) (by first | with_reducible assumption | decide | (and_intros <;> first | with_reducible assumption | (intros; refine Int.le_antisymm ?_ ?_ <;> omega) | omega) | assumption | (rw [show Int32.toInt 0 = 0 from rfl]; omega)) (by first | (and_intros <;> first | with_reducible assumption | (refine Int.le_antisymm ?_ ?_ <;> omega) | omega) | omega) H _ ls hP hD hS (lv_sub hl [0, 1, 2, 4] rfl)
set_option maxHeartbeats 4000000 in
set_option maxRecDepth 100000 in
theorem s_X8_mostBeautiful (l : Launch) (D : va_G) (cI cZ cC cS : ClassId) (sq : Nat → Nat) (sz : Nat) (x : Nat) (ct : Nat) (aCells : Nat) (vw : Nat) (vN : Nat) (sa : Nat) (tp : Nat) (dr : Nat) (rd : Nat) (im : Nat) (vu : Nat) (wh : Nat) (mk : Nat) (ak : Nat) (lt : Int32) (fi : Int32) (cw : Int32) (ch : Int32) (cp : Int32) (aPrices : Nat) (aFree : Nat) (aPlaces : Nat) (aHomes : Nat) (aManners : Nat) (aGone : Nat) (aPaid : Nat) (aBlinks : Nat) (fc : Nat → Int32) (vS : Nat) (vM : Nat) (vF : Nat) (vn : Nat → Int32) (hrg_fc : rng fc 80 (-1) (8)) (hrg_vn : rng vn 640 (-1) (79)) (hw : 0 ≤ cw.toInt ∧ cw.toInt ≤ 10) (hh : 0 ≤ ch.toInt ∧ ch.toInt ≤ 8) : mI l yX8_mostBeautiful wsX8_mostBeautiful 2 80 D (tyW cI cZ cC cS) sq [(x, .inr (8, [.ref sa, .ref tp, .ref ct, .ref dr, .ref rd, .ref im, .ref vw, .ref vu, .ref wh, .ref mk, .ref ak, .int lt, .int fi])), (ct, .inr (1, [.int cw, .int ch, .int cp, .ref aCells, .ref aPrices, .ref aFree, .ref aPlaces, .ref aHomes, .ref aManners, .ref aGone, .ref aPaid, .ref aBlinks])), (aCells, .inl (cI, 80, .inl fc)), (vw, .inr (6, [.ref vN, .ref vS, .ref vM, .ref vF])), (vN, .inl (cI, 640, .inl vn))] sz [.ref x] (fun r w => (w = [(x, .inr (8, [.ref sa, .ref tp, .ref ct, .ref dr, .ref rd, .ref im, .ref vw, .ref vu, .ref wh, .ref mk, .ref ak, .int lt, .int fi])), (ct, .inr (1, [.int cw, .int ch, .int cp, .ref aCells, .ref aPrices, .ref aFree, .ref aPlaces, .ref aHomes, .ref aManners, .ref aGone, .ref aPaid, .ref aBlinks])), (aCells, .inl (cI, 80, .inl fc)), (vw, .inr (6, [.ref vN, .ref vS, .ref vM, .ref vF])), (vN, .inl (cI, 640, .inl vn))])) := by
  refine b_metI (cc := cX8_mostBeautiful) (maxL := 5) (ret := (some .int)) (by decide) rfl (Nat.le_of_ble_eq_true rfl) ?_
  intro p e s m below meth c ls A H X hsz hP hK hT hD hA hS hl
  have S : CallFix p m c cX8_mostBeautiful 5 s ([.ref x] : List Value).toArray wsX8_mostBeautiful RX8 := X.1
  have hl : lv_has ls 5 [(0, .ref x)] := hl
  refine lv_iconst (v := (-1)) S.1 S.2.1 dX8_mostBeautiful_0 (by decide) ?_
  refine lv_istore_n (lv' := [(1, .int (-1)), (0, .ref x)]) S.1 S.2.1 dX8_mostBeautiful_1 rfl hl (by decide) rfl (fun ls hl => ?_)
  refine lv_iconst (v := (-1)) S.1 S.2.1 dX8_mostBeautiful_2 (by decide) ?_
  refine lv_istore_n (lv' := [(2, .int (-1)), (1, .int (-1)), (0, .ref x)]) S.1 S.2.1 dX8_mostBeautiful_3 rfl hl (by decide) rfl (fun ls hl => ?_)
  refine lv_iconst (v := (0)) S.1 S.2.1 dX8_mostBeautiful_4 (by decide) ?_
  refine lv_istore_n (lv' := [(3, .int 0), (2, .int (-1)), (1, .int (-1)), (0, .ref x)]) S.1 S.2.1 dX8_mostBeautiful_5 rfl hl (by decide) rfl (fun ls hl => ?_)
  refine lp_mostB l D cI cZ cC cS sq x ct aCells vw vN sa tp dr rd im vu wh mk ak lt fi cw ch cp aPrices aFree aPlaces aHomes aManners aGone aPaid aBlinks fc vS vM vF vn hrg_fc hrg_vn hw hh X hK hT hA (fun i_1 be_2 ms__3 hi_4 hi_5 hi_6 H locs ls hP hD hS hl => ?_) _ (0) (-1) (-1) (by first | with_reducible assumption | assumption | omega | decide | (rw [show Int32.toInt 0 = 0 from rfl]; omega)) (by first | with_reducible assumption | assumption | omega | decide | (rw [show Int32.toInt 0 = 0 from rfl]; omega)) (by first | with_reducible assumption | decide | (and_intros <;> first | with_reducible assumption | (intros; refine Int.le_antisymm ?_ ?_ <;> omega) | omega) | assumption | (rw [show Int32.toInt 0 = 0 from rfl]; omega)) (Nat.lt_succ_self _) H _ ls hP hD hS (lv_sub hl [0, 1, 2, 3] rfl)
  refine lv_iload_n S.1 S.2.1 dX8_mostBeautiful_51 rfl (lv_at hl 2 rfl) ?_
  exact b_iret S.1 S.2.1 X.2.1 X.2.2.1 hP hD hS rfl dX8_mostBeautiful_52
def sgm (f : Nat → Int32) (a b lo hi : Int) : Prop := ∀ j : Nat, a ≤ j → (j : Int) < b → lo ≤ (f j).toInt ∧ (f j).toInt ≤ hi
theorem sgm_get {f : Nat → Int32} {a b lo hi : Int} {i x : Int32} (h : sgm f a b lo hi) (h0 : 0 ≤ i.toInt) (h1 : a ≤ i.toInt) (h2 : i.toInt < b) (e : x = f i.toNatClampNeg) : lo ≤ x.toInt ∧ x.toInt ≤ hi := by
  have h3 : i.toNatClampNeg = i.toInt.toNat := rfl
  rw [e]
  exact h _ (by first | (and_intros <;> first | with_reducible assumption | (refine Int.le_antisymm ?_ ?_ <;> omega) | omega) | omega) (by first | (and_intros <;> first | with_reducible assumption | (refine Int.le_antisymm ?_ ?_ <;> omega) | omega) | omega)
theorem sgm_ext {f : Nat → Int32} {a b b2 lo hi : Int} {i x : Int32} (h : sgm f a b lo hi) (h0 : 0 ≤ i.toInt) (hb : b = i.toInt) (hb2 : b2 = b + 1) (e : x = f i.toNatClampNeg) (hx : lo ≤ x.toInt ∧ x.toInt ≤ hi) : sgm f a b2 lo hi := by
  intro j h1 h2
  have h3 : i.toNatClampNeg = i.toInt.toNat := rfl
  rcases Nat.lt_or_ge j i.toNatClampNeg with q | q
  · exact h j h1 (by first | (and_intros <;> first | with_reducible assumption | (refine Int.le_antisymm ?_ ?_ <;> omega) | omega) | omega)
  · have h4 : j = i.toNatClampNeg := by omega
    rw [h4, ← e]
    exact hx
theorem sgm_sub {f : Nat → Int32} {a b c lo hi : Int} (h : sgm f a b lo hi) (hc : c ≤ b) : sgm f a c lo hi := fun j h1 h2 => h j h1 (by first | (and_intros <;> first | with_reducible assumption | (refine Int.le_antisymm ?_ ?_ <;> omega) | omega) | omega)
def MGc (m co : Int) : Prop := (m = 2 ∧ 0 ≤ co ∧ co < 16) ∨ (¬ m = 2 ∧ 0 ≤ co ∧ co < 8)
def mgS (m : Int) (f : Nat → Int32) (a b : Int) : Prop := ∀ j : Nat, a ≤ j → (j : Int) < b → MGc m (f j).toInt
theorem mgS_0 {m a b : Int} {f : Nat → Int32} (h : b ≤ a) : mgS m f a b := fun j h1 h2 => absurd h2 (by first | (and_intros <;> first | with_reducible assumption | (refine Int.le_antisymm ?_ ?_ <;> omega) | omega) | omega)
theorem mgS_ext {m : Int} {f : Nat → Int32} {a b b2 : Int} {i x : Int32} (h : mgS m f a b) (e : x = f i.toNatClampNeg) (hx : (m = 2 ∧ 0 ≤ x.toInt ∧ x.toInt < 16) ∨ (¬ m = 2 ∧ 0 ≤ x.toInt ∧ x.toInt < 8)) (h0 : 0 ≤ i.toInt) (hb : b = i.toInt) (hb2 : b2 = b + 1) : mgS m f a b2 := by
  intro j h1 h2
  have h3 : i.toNatClampNeg = i.toInt.toNat := rfl
  rcases Nat.lt_or_ge j i.toNatClampNeg with q | q
  · exact h j h1 (by first | (and_intros <;> first | with_reducible assumption | (refine Int.le_antisymm ?_ ?_ <;> omega) | omega) | omega)
  · have h4 : j = i.toNatClampNeg := by omega
    rw [h4, ← e]
    exact hx
theorem mgS_sub {m : Int} {f : Nat → Int32} {a b c : Int} (h : mgS m f a b) (hc : c ≤ b) : mgS m f a c := fun j h1 h2 => h j h1 (by first | (and_intros <;> first | with_reducible assumption | (refine Int.le_antisymm ?_ ?_ <;> omega) | omega) | omega)
theorem mgS_no {m : Int} {f : Nat → Int32} {a b : Int} {i x : Int32} (e : x = f i.toNatClampNeg) (hx : ¬ ((m = 2 ∧ 0 ≤ x.toInt ∧ x.toInt < 16) ∨ (¬ m = 2 ∧ 0 ≤ x.toInt ∧ x.toInt < 8))) (h0 : 0 ≤ i.toInt) (h1 : a ≤ i.toInt) (h2 : i.toInt < b) : ¬ mgS m f a b := by
  intro z
  have h3 : i.toNatClampNeg = i.toInt.toNat := rfl
  have y := z i.toNatClampNeg (by first | (and_intros <;> first | with_reducible assumption | (refine Int.le_antisymm ?_ ?_ <;> omega) | omega) | omega) (by first | (and_intros <;> first | with_reducible assumption | (refine Int.le_antisymm ?_ ?_ <;> omega) | omega) | omega)
  rw [← e] at y
  exact hx y
theorem wk_e {it : Nat → Int32} {p : Int} {g : Nat → Int} {q : Int32} {k n : Nat} (h : q = (wkG it p g k).1) (e : k = n) : q = (wkG it p g n).1 := by rw [← e]; exact h
theorem wk_e2 {it : Nat → Int32} {p : Int} {g : Nat → Int} {fl fg fd fb : Nat → Int32} {k n : Nat} (h : CXd (wkG it p g k).2 fl fg fd fb) (e : k = n) : CXd (wkG it p g n).2 fl fg fd fb := by rw [← e]; exact h
theorem wk_d {it : Nat → Int32} {p : Int} {g : Nat → Int} {fl fg fd fb : Nat → Int32} {k n : Nat} {v : Int32} (h : CXd (stG (wkG it p g k).2 p v.toInt) fl fg fd fb) (hv : v = it k) (e : n = k + 1) : CXd (wkG it p g n).2 fl fg fd fb := by
  rw [e]
  show CXd (stG (wkG it p g k).2 p (it k).toInt) fl fg fd fb
  rw [← hv]
  exact h
theorem CXq_cg {g g2 : Nat → Int} {fp ff fm : Nat → Int32} (h : CXq g fp ff fm) (e : ∀ j : Nat, stI j → g2 j = g j) (h6 : g 3 ≤ 6) : CXq g2 fp ff fm := by
  refine ⟨fun j hj => ?_, fun j hj => ?_, fun p hp => ?_⟩
  · rw [e _ (by unfold stI; omega)]; exact h.1 j hj
  · rw [e _ (by unfold stI; omega)]; exact h.2.1 j hj
  · rw [e 3 (by unfold stI; omega)] at hp
    rw [e _ (by unfold stI; omega)]; exact h.2.2 p hp
theorem VWn_cg {g g2 : Nat → Int} {vn vm vf : Nat → Int32} (h : VWn g vn vm vf) (e : ∀ j : Nat, j < 84 → g2 j = g j) (hg : gB g) : VWn g2 vn vm vf := by
  intro c w hc hw
  have z := h c w hc hw
  have q := lk_cg (k := (c : Int)) (y := (w : Int)) e hg (by first | (and_intros <;> first | with_reducible assumption | (refine Int.le_antisymm ?_ ?_ <;> omega) | omega) | omega) (by first | (and_intros <;> first | with_reducible assumption | (refine Int.le_antisymm ?_ ?_ <;> omega) | omega) | omega)
  rw [q.2.2.2, q.2.1, q.2.2.1]
  exact z
