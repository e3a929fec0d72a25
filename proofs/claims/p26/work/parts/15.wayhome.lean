set_option maxRecDepth 20000 in
theorem ggX7_begin_X1_pays : GoodIn wsX7_begin wsX1_pays := goodIn_r _ [17, 18, 19, 37, 38, 39, 40, 41, 42, 43, 44, 45, 46, 47, 48] (by first | exact rfl | decide +kernel) (by decide +kernel)
set_option maxRecDepth 20000 in
theorem gX7_begin_X1_pays : GoodIn wsX7_begin (wsV RX7 74 RX1 yX1_pays wsX1_pays) := goodIn_app (goodIn_r _ [13, 14, 15, 16] (by first | exact rfl | decide +kernel) (by decide +kernel)) ggX7_begin_X1_pays
set_option maxRecDepth 20000 in
theorem ggX7_begin_X7_offer : GoodIn wsX7_begin wsX7_offer := goodIn_r _ [24, 7, 4, 9, 25, 11, 10, 26, 27, 28, 29, 30, 31, 32, 33, 34, 35, 36] (by first | exact rfl | decide +kernel) (by decide +kernel)
set_option maxRecDepth 20000 in
theorem gX7_begin_X7_offer : GoodIn wsX7_begin (wsV RX7 95 RX7 yX7_offer wsX7_offer) := goodIn_app (goodIn_r _ [20, 21, 22, 23] (by first | exact rfl | decide +kernel) (by decide +kernel)) ggX7_begin_X7_offer
set_option maxRecDepth 20000 in
theorem ggX7_spread_X7_offer : GoodIn wsX7_spread wsX7_offer := goodIn_r _ [16, 3, 17, 18, 19, 20, 21, 22, 23, 24, 25, 26, 27, 28, 29, 30, 31, 32] (by first | exact rfl | decide +kernel) (by decide +kernel)
set_option maxRecDepth 20000 in
theorem gX7_spread_X7_offer : GoodIn wsX7_spread (wsV RX7 95 RX7 yX7_offer wsX7_offer) := goodIn_app (goodIn_r _ [13, 14, 15, 8] (by first | exact rfl | decide +kernel) (by decide +kernel)) ggX7_spread_X7_offer
set_option maxRecDepth 20000 in
theorem ggX7_spread_X7_weight : GoodIn wsX7_spread wsX7_weight := goodIn_r _ [9, 10, 1, 11, 12, 22, 23, 24, 25, 26, 27, 28, 29, 30, 31, 32, 33, 34, 35, 36] (by first | exact rfl | decide +kernel) (by decide +kernel)
set_option maxRecDepth 20000 in
theorem gX7_spread_X7_weight : GoodIn wsX7_spread (wsV RX7 104 RX7 yX7_weight wsX7_weight) := goodIn_app (goodIn_r _ [5, 6, 7, 8] (by first | exact rfl | decide +kernel) (by decide +kernel)) ggX7_spread_X7_weight
set_option maxRecDepth 20000 in
theorem gdX7_after_0 : decode cX7_after 0 = .ok (.aload_n 0, 1) ∧ decode cX7_after 1 = .ok (.getfield 41, 3) ∧ decode cX7_after 4 = .ok (.getfield 101, 3) ∧ decode cX7_after 7 = .ok (.iload_n 1, 1) ∧ decode cX7_after 8 = .ok (.bipush 80, 2) ∧ decode cX7_after 10 = .ok (.irem, 1) ∧ decode cX7_after 11 = .ok (.bipush 8, 2) ∧ decode cX7_after 13 = .ok (.imul, 1) := by decide +kernel
theorem dX7_after_0 : decode cX7_after 0 = .ok (.aload_n 0, 1) := gdX7_after_0.1
theorem dX7_after_1 : decode cX7_after 1 = .ok (.getfield 41, 3) := gdX7_after_0.2.1
theorem dX7_after_4 : decode cX7_after 4 = .ok (.getfield 101, 3) := gdX7_after_0.2.2.1
theorem dX7_after_7 : decode cX7_after 7 = .ok (.iload_n 1, 1) := gdX7_after_0.2.2.2.1
theorem dX7_after_8 : decode cX7_after 8 = .ok (.bipush 80, 2) := gdX7_after_0.2.2.2.2.1
theorem dX7_after_10 : decode cX7_after 10 = .ok (.irem, 1) := gdX7_after_0.2.2.2.2.2.1
theorem dX7_after_11 : decode cX7_after 11 = .ok (.bipush 8, 2) := gdX7_after_0.2.2.2.2.2.2.1
theorem dX7_after_13 : decode cX7_after 13 = .ok (.imul, 1) := gdX7_after_0.2.2.2.2.2.2.2
set_option maxRecDepth 20000 in
theorem gdX7_after_14 : decode cX7_after 14 = .ok (.iload_n 2, 1) ∧ decode cX7_after 15 = .ok (.bipush 8, 2) ∧ decode cX7_after 17 = .ok (.irem, 1) ∧ decode cX7_after 18 = .ok (.iadd, 1) ∧ decode cX7_after 19 = .ok (.iaload, 1) ∧ decode cX7_after 20 = .ok (.istore_n 3, 1) ∧ decode cX7_after 21 = .ok (.iload_n 2, 1) ∧ decode cX7_after 22 = .ok (.bipush 8, 2) := by decide +kernel
theorem dX7_after_14 : decode cX7_after 14 = .ok (.iload_n 2, 1) := gdX7_after_14.1
theorem dX7_after_15 : decode cX7_after 15 = .ok (.bipush 8, 2) := gdX7_after_14.2.1
theorem dX7_after_17 : decode cX7_after 17 = .ok (.irem, 1) := gdX7_after_14.2.2.1
theorem dX7_after_18 : decode cX7_after 18 = .ok (.iadd, 1) := gdX7_after_14.2.2.2.1
theorem dX7_after_19 : decode cX7_after 19 = .ok (.iaload, 1) := gdX7_after_14.2.2.2.2.1
theorem dX7_after_20 : decode cX7_after 20 = .ok (.istore_n 3, 1) := gdX7_after_14.2.2.2.2.2.1
theorem dX7_after_21 : decode cX7_after 21 = .ok (.iload_n 2, 1) := gdX7_after_14.2.2.2.2.2.2.1
theorem dX7_after_22 : decode cX7_after 22 = .ok (.bipush 8, 2) := gdX7_after_14.2.2.2.2.2.2.2
set_option maxRecDepth 20000 in
theorem gdX7_after_24 : decode cX7_after 24 = .ok (.if_icmp .ge 10, 3) ∧ decode cX7_after 27 = .ok (.iload_n 1, 1) ∧ decode cX7_after 28 = .ok (.bipush 80, 2) ∧ decode cX7_after 30 = .ok (.idiv, 1) ∧ decode cX7_after 31 = .ok (.goto 9, 3) ∧ decode cX7_after 34 = .ok (.iload_n 1, 1) ∧ decode cX7_after 35 = .ok (.bipush 80, 2) ∧ decode cX7_after 37 = .ok (.idiv, 1) := by decide +kernel
theorem dX7_after_24 : decode cX7_after 24 = .ok (.if_icmp .ge 10, 3) := gdX7_after_24.1
theorem dX7_after_27 : decode cX7_after 27 = .ok (.iload_n 1, 1) := gdX7_after_24.2.1
theorem dX7_after_28 : decode cX7_after 28 = .ok (.bipush 80, 2) := gdX7_after_24.2.2.1
theorem dX7_after_30 : decode cX7_after 30 = .ok (.idiv, 1) := gdX7_after_24.2.2.2.1
theorem dX7_after_31 : decode cX7_after 31 = .ok (.goto 9, 3) := gdX7_after_24.2.2.2.2.1
theorem dX7_after_34 : decode cX7_after 34 = .ok (.iload_n 1, 1) := gdX7_after_24.2.2.2.2.2.1
theorem dX7_after_35 : decode cX7_after 35 = .ok (.bipush 80, 2) := gdX7_after_24.2.2.2.2.2.2.1
theorem dX7_after_37 : decode cX7_after 37 = .ok (.idiv, 1) := gdX7_after_24.2.2.2.2.2.2.2
set_option maxRecDepth 20000 in
theorem gdX7_after_38 : decode cX7_after 38 = .ok (.iconst 1, 1) ∧ decode cX7_after 39 = .ok (.isub, 1) ∧ decode cX7_after 40 = .ok (.istore 4, 2) ∧ decode cX7_after 42 = .ok (.iload_n 3, 1) ∧ decode cX7_after 43 = .ok (.iconst (-1), 1) ∧ decode cX7_after 44 = .ok (.if_icmp .eq 8, 3) ∧ decode cX7_after 47 = .ok (.iload 4, 2) ∧ decode cX7_after 49 = .ok (.ifCond .ge 7, 3) := by decide +kernel
theorem dX7_after_38 : decode cX7_after 38 = .ok (.iconst 1, 1) := gdX7_after_38.1
theorem dX7_after_39 : decode cX7_after 39 = .ok (.isub, 1) := gdX7_after_38.2.1
theorem dX7_after_40 : decode cX7_after 40 = .ok (.istore 4, 2) := gdX7_after_38.2.2.1
theorem dX7_after_42 : decode cX7_after 42 = .ok (.iload_n 3, 1) := gdX7_after_38.2.2.2.1
theorem dX7_after_43 : decode cX7_after 43 = .ok (.iconst (-1), 1) := gdX7_after_38.2.2.2.2.1
theorem dX7_after_44 : decode cX7_after 44 = .ok (.if_icmp .eq 8, 3) := gdX7_after_38.2.2.2.2.2.1
theorem dX7_after_47 : decode cX7_after 47 = .ok (.iload 4, 2) := gdX7_after_38.2.2.2.2.2.2.1
theorem dX7_after_49 : decode cX7_after 49 = .ok (.ifCond .ge 7, 3) := gdX7_after_38.2.2.2.2.2.2.2
set_option maxRecDepth 20000 in
theorem gdX7_after_52 : decode cX7_after 52 = .ok (.iconst (-1), 1) ∧ decode cX7_after 53 = .ok (.goto 10, 3) ∧ decode cX7_after 56 = .ok (.iload 4, 2) ∧ decode cX7_after 58 = .ok (.bipush 80, 2) ∧ decode cX7_after 60 = .ok (.imul, 1) ∧ decode cX7_after 61 = .ok (.iload_n 3, 1) ∧ decode cX7_after 62 = .ok (.iadd, 1) ∧ decode cX7_after 63 = .ok (.ireturn, 1) := by decide +kernel
theorem dX7_after_52 : decode cX7_after 52 = .ok (.iconst (-1), 1) := gdX7_after_52.1
theorem dX7_after_53 : decode cX7_after 53 = .ok (.goto 10, 3) := gdX7_after_52.2.1
theorem dX7_after_56 : decode cX7_after 56 = .ok (.iload 4, 2) := gdX7_after_52.2.2.1
theorem dX7_after_58 : decode cX7_after 58 = .ok (.bipush 80, 2) := gdX7_after_52.2.2.2.1
theorem dX7_after_60 : decode cX7_after 60 = .ok (.imul, 1) := gdX7_after_52.2.2.2.2.1
theorem dX7_after_61 : decode cX7_after 61 = .ok (.iload_n 3, 1) := gdX7_after_52.2.2.2.2.2.1
theorem dX7_after_62 : decode cX7_after 62 = .ok (.iadd, 1) := gdX7_after_52.2.2.2.2.2.2.1
theorem dX7_after_63 : decode cX7_after 63 = .ok (.ireturn, 1) := gdX7_after_52.2.2.2.2.2.2.2
set_option maxRecDepth 20000 in
theorem gdX7_begin_0 : decode cX7_begin 0 = .ok (.aload_n 0, 1) ∧ decode cX7_begin 1 = .ok (.iload_n 2, 1) ∧ decode cX7_begin 2 = .ok (.putfield 31, 3) ∧ decode cX7_begin 5 = .ok (.aload_n 0, 1) ∧ decode cX7_begin 6 = .ok (.aload_n 0, 1) ∧ decode cX7_begin 7 = .ok (.getfield 31, 3) ∧ decode cX7_begin 10 = .ok (.bipush 80, 2) ∧ decode cX7_begin 12 = .ok (.imul, 1) := by decide +kernel
theorem dX7_begin_0 : decode cX7_begin 0 = .ok (.aload_n 0, 1) := gdX7_begin_0.1
theorem dX7_begin_1 : decode cX7_begin 1 = .ok (.iload_n 2, 1) := gdX7_begin_0.2.1
theorem dX7_begin_2 : decode cX7_begin 2 = .ok (.putfield 31, 3) := gdX7_begin_0.2.2.1
theorem dX7_begin_5 : decode cX7_begin 5 = .ok (.aload_n 0, 1) := gdX7_begin_0.2.2.2.1
theorem dX7_begin_6 : decode cX7_begin 6 = .ok (.aload_n 0, 1) := gdX7_begin_0.2.2.2.2.1
theorem dX7_begin_7 : decode cX7_begin 7 = .ok (.getfield 31, 3) := gdX7_begin_0.2.2.2.2.2.1
theorem dX7_begin_10 : decode cX7_begin 10 = .ok (.bipush 80, 2) := gdX7_begin_0.2.2.2.2.2.2.1
theorem dX7_begin_12 : decode cX7_begin 12 = .ok (.imul, 1) := gdX7_begin_0.2.2.2.2.2.2.2
set_option maxRecDepth 20000 in
theorem gdX7_begin_13 : decode cX7_begin 13 = .ok (.aload_n 0, 1) ∧ decode cX7_begin 14 = .ok (.getfield 37, 3) ∧ decode cX7_begin 17 = .ok (.getfield 89, 3) ∧ decode cX7_begin 20 = .ok (.iload_n 1, 1) ∧ decode cX7_begin 21 = .ok (.iaload, 1) ∧ decode cX7_begin 22 = .ok (.iadd, 1) ∧ decode cX7_begin 23 = .ok (.putfield 34, 3) ∧ decode cX7_begin 26 = .ok (.iconst 0, 1) := by decide +kernel
theorem dX7_begin_13 : decode cX7_begin 13 = .ok (.aload_n 0, 1) := gdX7_begin_13.1
theorem dX7_begin_14 : decode cX7_begin 14 = .ok (.getfield 37, 3) := gdX7_begin_13.2.1
theorem dX7_begin_17 : decode cX7_begin 17 = .ok (.getfield 89, 3) := gdX7_begin_13.2.2.1
theorem dX7_begin_20 : decode cX7_begin 20 = .ok (.iload_n 1, 1) := gdX7_begin_13.2.2.2.1
theorem dX7_begin_21 : decode cX7_begin 21 = .ok (.iaload, 1) := gdX7_begin_13.2.2.2.2.1
theorem dX7_begin_22 : decode cX7_begin 22 = .ok (.iadd, 1) := gdX7_begin_13.2.2.2.2.2.1
theorem dX7_begin_23 : decode cX7_begin 23 = .ok (.putfield 34, 3) := gdX7_begin_13.2.2.2.2.2.2.1
theorem dX7_begin_26 : decode cX7_begin 26 = .ok (.iconst 0, 1) := gdX7_begin_13.2.2.2.2.2.2.2
set_option maxRecDepth 20000 in
theorem gdX7_begin_27 : decode cX7_begin 27 = .ok (.istore_n 3, 1) ∧ decode cX7_begin 28 = .ok (.iload_n 3, 1) ∧ decode cX7_begin 29 = .ok (.bipush 6, 2) ∧ decode cX7_begin 31 = .ok (.if_icmp .ge 37, 3) ∧ decode cX7_begin 34 = .ok (.aload_n 0, 1) ∧ decode cX7_begin 35 = .ok (.getfield 11, 3) ∧ decode cX7_begin 38 = .ok (.iload_n 3, 1) ∧ decode cX7_begin 39 = .ok (.aload_n 0, 1) := by decide +kernel
theorem dX7_begin_27 : decode cX7_begin 27 = .ok (.istore_n 3, 1) := gdX7_begin_27.1
theorem dX7_begin_28 : decode cX7_begin 28 = .ok (.iload_n 3, 1) := gdX7_begin_27.2.1
theorem dX7_begin_29 : decode cX7_begin 29 = .ok (.bipush 6, 2) := gdX7_begin_27.2.2.1
theorem dX7_begin_31 : decode cX7_begin 31 = .ok (.if_icmp .ge 37, 3) := gdX7_begin_27.2.2.2.1
theorem dX7_begin_34 : decode cX7_begin 34 = .ok (.aload_n 0, 1) := gdX7_begin_27.2.2.2.2.1
theorem dX7_begin_35 : decode cX7_begin 35 = .ok (.getfield 11, 3) := gdX7_begin_27.2.2.2.2.2.1
theorem dX7_begin_38 : decode cX7_begin 38 = .ok (.iload_n 3, 1) := gdX7_begin_27.2.2.2.2.2.2.1
theorem dX7_begin_39 : decode cX7_begin 39 = .ok (.aload_n 0, 1) := gdX7_begin_27.2.2.2.2.2.2.2
set_option maxRecDepth 20000 in
theorem gdX7_begin_40 : decode cX7_begin 40 = .ok (.getfield 37, 3) ∧ decode cX7_begin 43 = .ok (.iload_n 1, 1) ∧ decode cX7_begin 44 = .ok (.iload_n 3, 1) ∧ decode cX7_begin 45 = .ok (.invokevirtual 74, 3) ∧ decode cX7_begin 48 = .ok (.ifCond .eq 12, 3) ∧ decode cX7_begin 51 = .ok (.aload_n 0, 1) ∧ decode cX7_begin 52 = .ok (.getfield 50, 3) ∧ decode cX7_begin 55 = .ok (.iload_n 3, 1) := by decide +kernel
theorem dX7_begin_40 : decode cX7_begin 40 = .ok (.getfield 37, 3) := gdX7_begin_40.1
theorem dX7_begin_43 : decode cX7_begin 43 = .ok (.iload_n 1, 1) := gdX7_begin_40.2.1
theorem dX7_begin_44 : decode cX7_begin 44 = .ok (.iload_n 3, 1) := gdX7_begin_40.2.2.1
theorem dX7_begin_45 : decode cX7_begin 45 = .ok (.invokevirtual 74, 3) := gdX7_begin_40.2.2.2.1
theorem dX7_begin_48 : decode cX7_begin 48 = .ok (.ifCond .eq 12, 3) := gdX7_begin_40.2.2.2.2.1
theorem dX7_begin_51 : decode cX7_begin 51 = .ok (.aload_n 0, 1) := gdX7_begin_40.2.2.2.2.2.1
theorem dX7_begin_52 : decode cX7_begin 52 = .ok (.getfield 50, 3) := gdX7_begin_40.2.2.2.2.2.2.1
theorem dX7_begin_55 : decode cX7_begin 55 = .ok (.iload_n 3, 1) := gdX7_begin_40.2.2.2.2.2.2.2
set_option maxRecDepth 20000 in
theorem gdX7_begin_56 : decode cX7_begin 56 = .ok (.iaload, 1) ∧ decode cX7_begin 57 = .ok (.goto 4, 3) ∧ decode cX7_begin 60 = .ok (.iconst 0, 1) ∧ decode cX7_begin 61 = .ok (.iastore, 1) ∧ decode cX7_begin 62 = .ok (.iinc 3 1, 3) ∧ decode cX7_begin 65 = .ok (.goto (-37), 3) ∧ decode cX7_begin 68 = .ok (.iconst 0, 1) ∧ decode cX7_begin 69 = .ok (.istore_n 3, 1) := by decide +kernel
theorem dX7_begin_56 : decode cX7_begin 56 = .ok (.iaload, 1) := gdX7_begin_56.1
theorem dX7_begin_57 : decode cX7_begin 57 = .ok (.goto 4, 3) := gdX7_begin_56.2.1
theorem dX7_begin_60 : decode cX7_begin 60 = .ok (.iconst 0, 1) := gdX7_begin_56.2.2.1
theorem dX7_begin_61 : decode cX7_begin 61 = .ok (.iastore, 1) := gdX7_begin_56.2.2.2.1
theorem dX7_begin_62 : decode cX7_begin 62 = .ok (.iinc 3 1, 3) := gdX7_begin_56.2.2.2.2.1
theorem dX7_begin_65 : decode cX7_begin 65 = .ok (.goto (-37), 3) := gdX7_begin_56.2.2.2.2.2.1
theorem dX7_begin_68 : decode cX7_begin 68 = .ok (.iconst 0, 1) := gdX7_begin_56.2.2.2.2.2.2.1
theorem dX7_begin_69 : decode cX7_begin 69 = .ok (.istore_n 3, 1) := gdX7_begin_56.2.2.2.2.2.2.2
set_option maxRecDepth 20000 in
theorem gdX7_begin_70 : decode cX7_begin 70 = .ok (.iload_n 3, 1) ∧ decode cX7_begin 71 = .ok (.aload_n 0, 1) ∧ decode cX7_begin 72 = .ok (.getfield 31, 3) ∧ decode cX7_begin 75 = .ok (.iconst 1, 1) ∧ decode cX7_begin 76 = .ok (.iadd, 1) ∧ decode cX7_begin 77 = .ok (.bipush 80, 2) ∧ decode cX7_begin 79 = .ok (.imul, 1) ∧ decode cX7_begin 80 = .ok (.if_icmp .ge 24, 3) := by decide +kernel
theorem dX7_begin_70 : decode cX7_begin 70 = .ok (.iload_n 3, 1) := gdX7_begin_70.1
theorem dX7_begin_71 : decode cX7_begin 71 = .ok (.aload_n 0, 1) := gdX7_begin_70.2.1
theorem dX7_begin_72 : decode cX7_begin 72 = .ok (.getfield 31, 3) := gdX7_begin_70.2.2.1
theorem dX7_begin_75 : decode cX7_begin 75 = .ok (.iconst 1, 1) := gdX7_begin_70.2.2.2.1
theorem dX7_begin_76 : decode cX7_begin 76 = .ok (.iadd, 1) := gdX7_begin_70.2.2.2.2.1
theorem dX7_begin_77 : decode cX7_begin 77 = .ok (.bipush 80, 2) := gdX7_begin_70.2.2.2.2.2.1
theorem dX7_begin_79 : decode cX7_begin 79 = .ok (.imul, 1) := gdX7_begin_70.2.2.2.2.2.2.1
theorem dX7_begin_80 : decode cX7_begin 80 = .ok (.if_icmp .ge 24, 3) := gdX7_begin_70.2.2.2.2.2.2.2
set_option maxRecDepth 20000 in
theorem gdX7_begin_83 : decode cX7_begin 83 = .ok (.aload_n 0, 1) ∧ decode cX7_begin 84 = .ok (.getfield 15, 3) ∧ decode cX7_begin 87 = .ok (.iload_n 3, 1) ∧ decode cX7_begin 88 = .ok (.ldc 60, 2) ∧ decode cX7_begin 90 = .ok (.iastore, 1) ∧ decode cX7_begin 91 = .ok (.aload_n 0, 1) ∧ decode cX7_begin 92 = .ok (.getfield 21, 3) ∧ decode cX7_begin 95 = .ok (.iload_n 3, 1) := by decide +kernel
theorem dX7_begin_83 : decode cX7_begin 83 = .ok (.aload_n 0, 1) := gdX7_begin_83.1
theorem dX7_begin_84 : decode cX7_begin 84 = .ok (.getfield 15, 3) := gdX7_begin_83.2.1
theorem dX7_begin_87 : decode cX7_begin 87 = .ok (.iload_n 3, 1) := gdX7_begin_83.2.2.1
theorem dX7_begin_88 : decode cX7_begin 88 = .ok (.ldc 60, 2) := gdX7_begin_83.2.2.2.1
theorem dX7_begin_90 : decode cX7_begin 90 = .ok (.iastore, 1) := gdX7_begin_83.2.2.2.2.1
theorem dX7_begin_91 : decode cX7_begin 91 = .ok (.aload_n 0, 1) := gdX7_begin_83.2.2.2.2.2.1
theorem dX7_begin_92 : decode cX7_begin 92 = .ok (.getfield 21, 3) := gdX7_begin_83.2.2.2.2.2.2.1
theorem dX7_begin_95 : decode cX7_begin 95 = .ok (.iload_n 3, 1) := gdX7_begin_83.2.2.2.2.2.2.2
set_option maxRecDepth 20000 in
theorem gdX7_begin_96 : decode cX7_begin 96 = .ok (.iconst 0, 1) ∧ decode cX7_begin 97 = .ok (.iastore, 1) ∧ decode cX7_begin 98 = .ok (.iinc 3 1, 3) ∧ decode cX7_begin 101 = .ok (.goto (-31), 3) ∧ decode cX7_begin 104 = .ok (.aload_n 0, 1) ∧ decode cX7_begin 105 = .ok (.iconst 0, 1) ∧ decode cX7_begin 106 = .ok (.putfield 24, 3) ∧ decode cX7_begin 109 = .ok (.aload_n 0, 1) := by decide +kernel
theorem dX7_begin_96 : decode cX7_begin 96 = .ok (.iconst 0, 1) := gdX7_begin_96.1
theorem dX7_begin_97 : decode cX7_begin 97 = .ok (.iastore, 1) := gdX7_begin_96.2.1
theorem dX7_begin_98 : decode cX7_begin 98 = .ok (.iinc 3 1, 3) := gdX7_begin_96.2.2.1
theorem dX7_begin_101 : decode cX7_begin 101 = .ok (.goto (-31), 3) := gdX7_begin_96.2.2.2.1
theorem dX7_begin_104 : decode cX7_begin 104 = .ok (.aload_n 0, 1) := gdX7_begin_96.2.2.2.2.1
theorem dX7_begin_105 : decode cX7_begin 105 = .ok (.iconst 0, 1) := gdX7_begin_96.2.2.2.2.2.1
theorem dX7_begin_106 : decode cX7_begin 106 = .ok (.putfield 24, 3) := gdX7_begin_96.2.2.2.2.2.2.1
theorem dX7_begin_109 : decode cX7_begin 109 = .ok (.aload_n 0, 1) := gdX7_begin_96.2.2.2.2.2.2.2
set_option maxRecDepth 20000 in
theorem gdX7_begin_110 : decode cX7_begin 110 = .ok (.iconst 0, 1) ∧ decode cX7_begin 111 = .ok (.putfield 28, 3) ∧ decode cX7_begin 114 = .ok (.iconst 0, 1) ∧ decode cX7_begin 115 = .ok (.istore_n 3, 1) ∧ decode cX7_begin 116 = .ok (.iload_n 3, 1) ∧ decode cX7_begin 117 = .ok (.aload_n 0, 1) ∧ decode cX7_begin 118 = .ok (.getfield 31, 3) ∧ decode cX7_begin 121 = .ok (.if_icmp .gt 28, 3) := by decide +kernel
theorem dX7_begin_110 : decode cX7_begin 110 = .ok (.iconst 0, 1) := gdX7_begin_110.1
theorem dX7_begin_111 : decode cX7_begin 111 = .ok (.putfield 28, 3) := gdX7_begin_110.2.1
theorem dX7_begin_114 : decode cX7_begin 114 = .ok (.iconst 0, 1) := gdX7_begin_110.2.2.1
theorem dX7_begin_115 : decode cX7_begin 115 = .ok (.istore_n 3, 1) := gdX7_begin_110.2.2.2.1
theorem dX7_begin_116 : decode cX7_begin 116 = .ok (.iload_n 3, 1) := gdX7_begin_110.2.2.2.2.1
theorem dX7_begin_117 : decode cX7_begin 117 = .ok (.aload_n 0, 1) := gdX7_begin_110.2.2.2.2.2.1
theorem dX7_begin_118 : decode cX7_begin 118 = .ok (.getfield 31, 3) := gdX7_begin_110.2.2.2.2.2.2.1
theorem dX7_begin_121 : decode cX7_begin 121 = .ok (.if_icmp .gt 28, 3) := gdX7_begin_110.2.2.2.2.2.2.2
set_option maxRecDepth 20000 in
theorem gdX7_begin_124 : decode cX7_begin 124 = .ok (.aload_n 0, 1) ∧ decode cX7_begin 125 = .ok (.iload_n 3, 1) ∧ decode cX7_begin 126 = .ok (.bipush 80, 2) ∧ decode cX7_begin 128 = .ok (.imul, 1) ∧ decode cX7_begin 129 = .ok (.aload_n 0, 1) ∧ decode cX7_begin 130 = .ok (.getfield 37, 3) ∧ decode cX7_begin 133 = .ok (.getfield 92, 3) ∧ decode cX7_begin 136 = .ok (.iload_n 1, 1) := by decide +kernel
theorem dX7_begin_124 : decode cX7_begin 124 = .ok (.aload_n 0, 1) := gdX7_begin_124.1
theorem dX7_begin_125 : decode cX7_begin 125 = .ok (.iload_n 3, 1) := gdX7_begin_124.2.1
theorem dX7_begin_126 : decode cX7_begin 126 = .ok (.bipush 80, 2) := gdX7_begin_124.2.2.1
theorem dX7_begin_128 : decode cX7_begin 128 = .ok (.imul, 1) := gdX7_begin_124.2.2.2.1
theorem dX7_begin_129 : decode cX7_begin 129 = .ok (.aload_n 0, 1) := gdX7_begin_124.2.2.2.2.1
theorem dX7_begin_130 : decode cX7_begin 130 = .ok (.getfield 37, 3) := gdX7_begin_124.2.2.2.2.2.1
theorem dX7_begin_133 : decode cX7_begin 133 = .ok (.getfield 92, 3) := gdX7_begin_124.2.2.2.2.2.2.1
theorem dX7_begin_136 : decode cX7_begin 136 = .ok (.iload_n 1, 1) := gdX7_begin_124.2.2.2.2.2.2.2
set_option maxRecDepth 20000 in
theorem gdX7_begin_137 : decode cX7_begin 137 = .ok (.iaload, 1) ∧ decode cX7_begin 138 = .ok (.iadd, 1) ∧ decode cX7_begin 139 = .ok (.iconst 0, 1) ∧ decode cX7_begin 140 = .ok (.invokevirtual 95, 3) ∧ decode cX7_begin 143 = .ok (.iinc 3 1, 3) ∧ decode cX7_begin 146 = .ok (.goto (-30), 3) ∧ decode cX7_begin 149 = .ok (.return_, 1) := by decide +kernel
theorem dX7_begin_137 : decode cX7_begin 137 = .ok (.iaload, 1) := gdX7_begin_137.1
theorem dX7_begin_138 : decode cX7_begin 138 = .ok (.iadd, 1) := gdX7_begin_137.2.1
theorem dX7_begin_139 : decode cX7_begin 139 = .ok (.iconst 0, 1) := gdX7_begin_137.2.2.1
theorem dX7_begin_140 : decode cX7_begin 140 = .ok (.invokevirtual 95, 3) := gdX7_begin_137.2.2.2.1
theorem dX7_begin_143 : decode cX7_begin 143 = .ok (.iinc 3 1, 3) := gdX7_begin_137.2.2.2.2.1
theorem dX7_begin_146 : decode cX7_begin 146 = .ok (.goto (-30), 3) := gdX7_begin_137.2.2.2.2.2.1
theorem dX7_begin_149 : decode cX7_begin 149 = .ok (.return_, 1) := gdX7_begin_137.2.2.2.2.2.2
set_option maxRecDepth 20000 in
theorem gdX7_offer_0 : decode cX7_offer 0 = .ok (.iload_n 2, 1) ∧ decode cX7_offer 1 = .ok (.aload_n 0, 1) ∧ decode cX7_offer 2 = .ok (.getfield 15, 3) ∧ decode cX7_offer 5 = .ok (.iload_n 1, 1) ∧ decode cX7_offer 6 = .ok (.iaload, 1) ∧ decode cX7_offer 7 = .ok (.if_icmp .ge 16, 3) ∧ decode cX7_offer 10 = .ok (.iload_n 2, 1) ∧ decode cX7_offer 11 = .ok (.aload_n 0, 1) := by decide +kernel
theorem dX7_offer_0 : decode cX7_offer 0 = .ok (.iload_n 2, 1) := gdX7_offer_0.1
theorem dX7_offer_1 : decode cX7_offer 1 = .ok (.aload_n 0, 1) := gdX7_offer_0.2.1
theorem dX7_offer_2 : decode cX7_offer 2 = .ok (.getfield 15, 3) := gdX7_offer_0.2.2.1
theorem dX7_offer_5 : decode cX7_offer 5 = .ok (.iload_n 1, 1) := gdX7_offer_0.2.2.2.1
theorem dX7_offer_6 : decode cX7_offer 6 = .ok (.iaload, 1) := gdX7_offer_0.2.2.2.2.1
theorem dX7_offer_7 : decode cX7_offer 7 = .ok (.if_icmp .ge 16, 3) := gdX7_offer_0.2.2.2.2.2.1
theorem dX7_offer_10 : decode cX7_offer 10 = .ok (.iload_n 2, 1) := gdX7_offer_0.2.2.2.2.2.2.1
theorem dX7_offer_11 : decode cX7_offer 11 = .ok (.aload_n 0, 1) := gdX7_offer_0.2.2.2.2.2.2.2
set_option maxRecDepth 20000 in
theorem gdX7_offer_12 : decode cX7_offer 12 = .ok (.getfield 15, 3) ∧ decode cX7_offer 15 = .ok (.aload_n 0, 1) ∧ decode cX7_offer 16 = .ok (.getfield 34, 3) ∧ decode cX7_offer 19 = .ok (.iaload, 1) ∧ decode cX7_offer 20 = .ok (.if_icmp .lt 4, 3) ∧ decode cX7_offer 23 = .ok (.return_, 1) ∧ decode cX7_offer 24 = .ok (.aload_n 0, 1) ∧ decode cX7_offer 25 = .ok (.getfield 15, 3) := by decide +kernel
theorem dX7_offer_12 : decode cX7_offer 12 = .ok (.getfield 15, 3) := gdX7_offer_12.1
theorem dX7_offer_15 : decode cX7_offer 15 = .ok (.aload_n 0, 1) := gdX7_offer_12.2.1
theorem dX7_offer_16 : decode cX7_offer 16 = .ok (.getfield 34, 3) := gdX7_offer_12.2.2.1
theorem dX7_offer_19 : decode cX7_offer 19 = .ok (.iaload, 1) := gdX7_offer_12.2.2.2.1
theorem dX7_offer_20 : decode cX7_offer 20 = .ok (.if_icmp .lt 4, 3) := gdX7_offer_12.2.2.2.2.1
theorem dX7_offer_23 : decode cX7_offer 23 = .ok (.return_, 1) := gdX7_offer_12.2.2.2.2.2.1
theorem dX7_offer_24 : decode cX7_offer 24 = .ok (.aload_n 0, 1) := gdX7_offer_12.2.2.2.2.2.2.1
theorem dX7_offer_25 : decode cX7_offer 25 = .ok (.getfield 15, 3) := gdX7_offer_12.2.2.2.2.2.2.2
set_option maxRecDepth 20000 in
theorem gdX7_offer_28 : decode cX7_offer 28 = .ok (.iload_n 1, 1) ∧ decode cX7_offer 29 = .ok (.iload_n 2, 1) ∧ decode cX7_offer 30 = .ok (.iastore, 1) ∧ decode cX7_offer 31 = .ok (.aload_n 0, 1) ∧ decode cX7_offer 32 = .ok (.getfield 21, 3) ∧ decode cX7_offer 35 = .ok (.iload_n 1, 1) ∧ decode cX7_offer 36 = .ok (.iaload, 1) ∧ decode cX7_offer 37 = .ok (.ifCond .ne 56, 3) := by decide +kernel
theorem dX7_offer_28 : decode cX7_offer 28 = .ok (.iload_n 1, 1) := gdX7_offer_28.1
theorem dX7_offer_29 : decode cX7_offer 29 = .ok (.iload_n 2, 1) := gdX7_offer_28.2.1
theorem dX7_offer_30 : decode cX7_offer 30 = .ok (.iastore, 1) := gdX7_offer_28.2.2.1
theorem dX7_offer_31 : decode cX7_offer 31 = .ok (.aload_n 0, 1) := gdX7_offer_28.2.2.2.1
theorem dX7_offer_32 : decode cX7_offer 32 = .ok (.getfield 21, 3) := gdX7_offer_28.2.2.2.2.1
theorem dX7_offer_35 : decode cX7_offer 35 = .ok (.iload_n 1, 1) := gdX7_offer_28.2.2.2.2.2.1
theorem dX7_offer_36 : decode cX7_offer 36 = .ok (.iaload, 1) := gdX7_offer_28.2.2.2.2.2.2.1
theorem dX7_offer_37 : decode cX7_offer 37 = .ok (.ifCond .ne 56, 3) := gdX7_offer_28.2.2.2.2.2.2.2
set_option maxRecDepth 20000 in
theorem gdX7_offer_40 : decode cX7_offer 40 = .ok (.aload_n 0, 1) ∧ decode cX7_offer 41 = .ok (.getfield 21, 3) ∧ decode cX7_offer 44 = .ok (.iload_n 1, 1) ∧ decode cX7_offer 45 = .ok (.iconst 1, 1) ∧ decode cX7_offer 46 = .ok (.iastore, 1) ∧ decode cX7_offer 47 = .ok (.aload_n 0, 1) ∧ decode cX7_offer 48 = .ok (.getfield 18, 3) ∧ decode cX7_offer 51 = .ok (.aload_n 0, 1) := by decide +kernel
theorem dX7_offer_40 : decode cX7_offer 40 = .ok (.aload_n 0, 1) := gdX7_offer_40.1
theorem dX7_offer_41 : decode cX7_offer 41 = .ok (.getfield 21, 3) := gdX7_offer_40.2.1
theorem dX7_offer_44 : decode cX7_offer 44 = .ok (.iload_n 1, 1) := gdX7_offer_40.2.2.1
theorem dX7_offer_45 : decode cX7_offer 45 = .ok (.iconst 1, 1) := gdX7_offer_40.2.2.2.1
theorem dX7_offer_46 : decode cX7_offer 46 = .ok (.iastore, 1) := gdX7_offer_40.2.2.2.2.1
theorem dX7_offer_47 : decode cX7_offer 47 = .ok (.aload_n 0, 1) := gdX7_offer_40.2.2.2.2.2.1
theorem dX7_offer_48 : decode cX7_offer 48 = .ok (.getfield 18, 3) := gdX7_offer_40.2.2.2.2.2.2.1
theorem dX7_offer_51 : decode cX7_offer 51 = .ok (.aload_n 0, 1) := gdX7_offer_40.2.2.2.2.2.2.2
set_option maxRecDepth 20000 in
theorem gdX7_offer_52 : decode cX7_offer 52 = .ok (.getfield 28, 3) ∧ decode cX7_offer 55 = .ok (.iload_n 1, 1) ∧ decode cX7_offer 56 = .ok (.iastore, 1) ∧ decode cX7_offer 57 = .ok (.aload_n 0, 1) ∧ decode cX7_offer 58 = .ok (.aload_n 0, 1) ∧ decode cX7_offer 59 = .ok (.getfield 28, 3) ∧ decode cX7_offer 62 = .ok (.iconst 1, 1) ∧ decode cX7_offer 63 = .ok (.iadd, 1) := by decide +kernel
theorem dX7_offer_52 : decode cX7_offer 52 = .ok (.getfield 28, 3) := gdX7_offer_52.1
theorem dX7_offer_55 : decode cX7_offer 55 = .ok (.iload_n 1, 1) := gdX7_offer_52.2.1
theorem dX7_offer_56 : decode cX7_offer 56 = .ok (.iastore, 1) := gdX7_offer_52.2.2.1
theorem dX7_offer_57 : decode cX7_offer 57 = .ok (.aload_n 0, 1) := gdX7_offer_52.2.2.2.1
theorem dX7_offer_58 : decode cX7_offer 58 = .ok (.aload_n 0, 1) := gdX7_offer_52.2.2.2.2.1
theorem dX7_offer_59 : decode cX7_offer 59 = .ok (.getfield 28, 3) := gdX7_offer_52.2.2.2.2.2.1
theorem dX7_offer_62 : decode cX7_offer 62 = .ok (.iconst 1, 1) := gdX7_offer_52.2.2.2.2.2.2.1
theorem dX7_offer_63 : decode cX7_offer 63 = .ok (.iadd, 1) := gdX7_offer_52.2.2.2.2.2.2.2
set_option maxRecDepth 20000 in
theorem gdX7_offer_64 : decode cX7_offer 64 = .ok (.sipush 480, 3) ∧ decode cX7_offer 67 = .ok (.if_icmp .ge 12, 3) ∧ decode cX7_offer 70 = .ok (.aload_n 0, 1) ∧ decode cX7_offer 71 = .ok (.getfield 28, 3) ∧ decode cX7_offer 74 = .ok (.iconst 1, 1) ∧ decode cX7_offer 75 = .ok (.iadd, 1) ∧ decode cX7_offer 76 = .ok (.goto 4, 3) ∧ decode cX7_offer 79 = .ok (.iconst 0, 1) := by decide +kernel
theorem dX7_offer_64 : decode cX7_offer 64 = .ok (.sipush 480, 3) := gdX7_offer_64.1
theorem dX7_offer_67 : decode cX7_offer 67 = .ok (.if_icmp .ge 12, 3) := gdX7_offer_64.2.1
theorem dX7_offer_70 : decode cX7_offer 70 = .ok (.aload_n 0, 1) := gdX7_offer_64.2.2.1
theorem dX7_offer_71 : decode cX7_offer 71 = .ok (.getfield 28, 3) := gdX7_offer_64.2.2.2.1
theorem dX7_offer_74 : decode cX7_offer 74 = .ok (.iconst 1, 1) := gdX7_offer_64.2.2.2.2.1
theorem dX7_offer_75 : decode cX7_offer 75 = .ok (.iadd, 1) := gdX7_offer_64.2.2.2.2.2.1
theorem dX7_offer_76 : decode cX7_offer 76 = .ok (.goto 4, 3) := gdX7_offer_64.2.2.2.2.2.2.1
theorem dX7_offer_79 : decode cX7_offer 79 = .ok (.iconst 0, 1) := gdX7_offer_64.2.2.2.2.2.2.2
set_option maxRecDepth 20000 in
theorem gdX7_offer_80 : decode cX7_offer 80 = .ok (.putfield 28, 3) ∧ decode cX7_offer 83 = .ok (.aload_n 0, 1) ∧ decode cX7_offer 84 = .ok (.dup, 1) ∧ decode cX7_offer 85 = .ok (.getfield 24, 3) ∧ decode cX7_offer 88 = .ok (.iconst 1, 1) ∧ decode cX7_offer 89 = .ok (.iadd, 1) ∧ decode cX7_offer 90 = .ok (.putfield 24, 3) ∧ decode cX7_offer 93 = .ok (.return_, 1) := by decide +kernel
theorem dX7_offer_80 : decode cX7_offer 80 = .ok (.putfield 28, 3) := gdX7_offer_80.1
theorem dX7_offer_83 : decode cX7_offer 83 = .ok (.aload_n 0, 1) := gdX7_offer_80.2.1
theorem dX7_offer_84 : decode cX7_offer 84 = .ok (.dup, 1) := gdX7_offer_80.2.2.1
theorem dX7_offer_85 : decode cX7_offer 85 = .ok (.getfield 24, 3) := gdX7_offer_80.2.2.2.1
theorem dX7_offer_88 : decode cX7_offer 88 = .ok (.iconst 1, 1) := gdX7_offer_80.2.2.2.2.1
theorem dX7_offer_89 : decode cX7_offer 89 = .ok (.iadd, 1) := gdX7_offer_80.2.2.2.2.2.1
theorem dX7_offer_90 : decode cX7_offer 90 = .ok (.putfield 24, 3) := gdX7_offer_80.2.2.2.2.2.2.1
theorem dX7_offer_93 : decode cX7_offer 93 = .ok (.return_, 1) := gdX7_offer_80.2.2.2.2.2.2.2
set_option maxRecDepth 20000 in
theorem gdX7_spread_0 : decode cX7_spread 0 = .ok (.iload_n 1, 1) ∧ decode cX7_spread 1 = .ok (.bipush 80, 2) ∧ decode cX7_spread 3 = .ok (.idiv, 1) ∧ decode cX7_spread 4 = .ok (.istore_n 2, 1) ∧ decode cX7_spread 5 = .ok (.iload_n 1, 1) ∧ decode cX7_spread 6 = .ok (.bipush 80, 2) ∧ decode cX7_spread 8 = .ok (.irem, 1) ∧ decode cX7_spread 9 = .ok (.istore_n 3, 1) := by decide +kernel
theorem dX7_spread_0 : decode cX7_spread 0 = .ok (.iload_n 1, 1) := gdX7_spread_0.1
theorem dX7_spread_1 : decode cX7_spread 1 = .ok (.bipush 80, 2) := gdX7_spread_0.2.1
theorem dX7_spread_3 : decode cX7_spread 3 = .ok (.idiv, 1) := gdX7_spread_0.2.2.1
theorem dX7_spread_4 : decode cX7_spread 4 = .ok (.istore_n 2, 1) := gdX7_spread_0.2.2.2.1
theorem dX7_spread_5 : decode cX7_spread 5 = .ok (.iload_n 1, 1) := gdX7_spread_0.2.2.2.2.1
theorem dX7_spread_6 : decode cX7_spread 6 = .ok (.bipush 80, 2) := gdX7_spread_0.2.2.2.2.2.1
theorem dX7_spread_8 : decode cX7_spread 8 = .ok (.irem, 1) := gdX7_spread_0.2.2.2.2.2.2.1
theorem dX7_spread_9 : decode cX7_spread 9 = .ok (.istore_n 3, 1) := gdX7_spread_0.2.2.2.2.2.2.2
set_option maxRecDepth 20000 in
theorem gdX7_spread_10 : decode cX7_spread 10 = .ok (.iconst 0, 1) ∧ decode cX7_spread 11 = .ok (.istore 4, 2) ∧ decode cX7_spread 13 = .ok (.iload 4, 2) ∧ decode cX7_spread 15 = .ok (.bipush 8, 2) ∧ decode cX7_spread 17 = .ok (.if_icmp .ge 96, 3) ∧ decode cX7_spread 20 = .ok (.aload_n 0, 1) ∧ decode cX7_spread 21 = .ok (.getfield 41, 3) ∧ decode cX7_spread 24 = .ok (.getfield 101, 3) := by decide +kernel
theorem dX7_spread_10 : decode cX7_spread 10 = .ok (.iconst 0, 1) := gdX7_spread_10.1
theorem dX7_spread_11 : decode cX7_spread 11 = .ok (.istore 4, 2) := gdX7_spread_10.2.1
theorem dX7_spread_13 : decode cX7_spread 13 = .ok (.iload 4, 2) := gdX7_spread_10.2.2.1
theorem dX7_spread_15 : decode cX7_spread 15 = .ok (.bipush 8, 2) := gdX7_spread_10.2.2.2.1
theorem dX7_spread_17 : decode cX7_spread 17 = .ok (.if_icmp .ge 96, 3) := gdX7_spread_10.2.2.2.2.1
theorem dX7_spread_20 : decode cX7_spread 20 = .ok (.aload_n 0, 1) := gdX7_spread_10.2.2.2.2.2.1
theorem dX7_spread_21 : decode cX7_spread 21 = .ok (.getfield 41, 3) := gdX7_spread_10.2.2.2.2.2.2.1
theorem dX7_spread_24 : decode cX7_spread 24 = .ok (.getfield 101, 3) := gdX7_spread_10.2.2.2.2.2.2.2
set_option maxRecDepth 20000 in
theorem gdX7_spread_27 : decode cX7_spread 27 = .ok (.iload_n 3, 1) ∧ decode cX7_spread 28 = .ok (.bipush 8, 2) ∧ decode cX7_spread 30 = .ok (.imul, 1) ∧ decode cX7_spread 31 = .ok (.iload 4, 2) ∧ decode cX7_spread 33 = .ok (.iconst 4, 1) ∧ decode cX7_spread 34 = .ok (.ixor, 1) ∧ decode cX7_spread 35 = .ok (.iadd, 1) ∧ decode cX7_spread 36 = .ok (.iaload, 1) := by decide +kernel
theorem dX7_spread_27 : decode cX7_spread 27 = .ok (.iload_n 3, 1) := gdX7_spread_27.1
theorem dX7_spread_28 : decode cX7_spread 28 = .ok (.bipush 8, 2) := gdX7_spread_27.2.1
theorem dX7_spread_30 : decode cX7_spread 30 = .ok (.imul, 1) := gdX7_spread_27.2.2.1
theorem dX7_spread_31 : decode cX7_spread 31 = .ok (.iload 4, 2) := gdX7_spread_27.2.2.2.1
theorem dX7_spread_33 : decode cX7_spread 33 = .ok (.iconst 4, 1) := gdX7_spread_27.2.2.2.2.1
theorem dX7_spread_34 : decode cX7_spread 34 = .ok (.ixor, 1) := gdX7_spread_27.2.2.2.2.2.1
theorem dX7_spread_35 : decode cX7_spread 35 = .ok (.iadd, 1) := gdX7_spread_27.2.2.2.2.2.2.1
theorem dX7_spread_36 : decode cX7_spread 36 = .ok (.iaload, 1) := gdX7_spread_27.2.2.2.2.2.2.2
set_option maxRecDepth 20000 in
theorem gdX7_spread_37 : decode cX7_spread 37 = .ok (.istore 5, 2) ∧ decode cX7_spread 39 = .ok (.iload 5, 2) ∧ decode cX7_spread 41 = .ok (.iconst (-1), 1) ∧ decode cX7_spread 42 = .ok (.if_icmp .ne 6, 3) ∧ decode cX7_spread 45 = .ok (.goto 62, 3) ∧ decode cX7_spread 48 = .ok (.aload_n 0, 1) ∧ decode cX7_spread 49 = .ok (.iload_n 2, 1) ∧ decode cX7_spread 50 = .ok (.bipush 80, 2) := by decide +kernel
theorem dX7_spread_37 : decode cX7_spread 37 = .ok (.istore 5, 2) := gdX7_spread_37.1
theorem dX7_spread_39 : decode cX7_spread 39 = .ok (.iload 5, 2) := gdX7_spread_37.2.1
theorem dX7_spread_41 : decode cX7_spread 41 = .ok (.iconst (-1), 1) := gdX7_spread_37.2.2.1
theorem dX7_spread_42 : decode cX7_spread 42 = .ok (.if_icmp .ne 6, 3) := gdX7_spread_37.2.2.2.1
theorem dX7_spread_45 : decode cX7_spread 45 = .ok (.goto 62, 3) := gdX7_spread_37.2.2.2.2.1
theorem dX7_spread_48 : decode cX7_spread 48 = .ok (.aload_n 0, 1) := gdX7_spread_37.2.2.2.2.2.1
theorem dX7_spread_49 : decode cX7_spread 49 = .ok (.iload_n 2, 1) := gdX7_spread_37.2.2.2.2.2.2.1
theorem dX7_spread_50 : decode cX7_spread 50 = .ok (.bipush 80, 2) := gdX7_spread_37.2.2.2.2.2.2.2
set_option maxRecDepth 20000 in
theorem gdX7_spread_52 : decode cX7_spread 52 = .ok (.imul, 1) ∧ decode cX7_spread 53 = .ok (.iload 5, 2) ∧ decode cX7_spread 55 = .ok (.iadd, 1) ∧ decode cX7_spread 56 = .ok (.aload_n 0, 1) ∧ decode cX7_spread 57 = .ok (.getfield 15, 3) ∧ decode cX7_spread 60 = .ok (.iload_n 1, 1) ∧ decode cX7_spread 61 = .ok (.iaload, 1) ∧ decode cX7_spread 62 = .ok (.aload_n 0, 1) := by decide +kernel
theorem dX7_spread_52 : decode cX7_spread 52 = .ok (.imul, 1) := gdX7_spread_52.1
theorem dX7_spread_53 : decode cX7_spread 53 = .ok (.iload 5, 2) := gdX7_spread_52.2.1
theorem dX7_spread_55 : decode cX7_spread 55 = .ok (.iadd, 1) := gdX7_spread_52.2.2.1
theorem dX7_spread_56 : decode cX7_spread 56 = .ok (.aload_n 0, 1) := gdX7_spread_52.2.2.2.1
theorem dX7_spread_57 : decode cX7_spread 57 = .ok (.getfield 15, 3) := gdX7_spread_52.2.2.2.2.1
theorem dX7_spread_60 : decode cX7_spread 60 = .ok (.iload_n 1, 1) := gdX7_spread_52.2.2.2.2.2.1
theorem dX7_spread_61 : decode cX7_spread 61 = .ok (.iaload, 1) := gdX7_spread_52.2.2.2.2.2.2.1
theorem dX7_spread_62 : decode cX7_spread 62 = .ok (.aload_n 0, 1) := gdX7_spread_52.2.2.2.2.2.2.2
set_option maxRecDepth 20000 in
theorem gdX7_spread_63 : decode cX7_spread 63 = .ok (.iload 5, 2) ∧ decode cX7_spread 65 = .ok (.bipush 8, 2) ∧ decode cX7_spread 67 = .ok (.imul, 1) ∧ decode cX7_spread 68 = .ok (.iload 4, 2) ∧ decode cX7_spread 70 = .ok (.iadd, 1) ∧ decode cX7_spread 71 = .ok (.invokevirtual 104, 3) ∧ decode cX7_spread 74 = .ok (.iadd, 1) ∧ decode cX7_spread 75 = .ok (.invokevirtual 95, 3) := by decide +kernel
theorem dX7_spread_63 : decode cX7_spread 63 = .ok (.iload 5, 2) := gdX7_spread_63.1
theorem dX7_spread_65 : decode cX7_spread 65 = .ok (.bipush 8, 2) := gdX7_spread_63.2.1
theorem dX7_spread_67 : decode cX7_spread 67 = .ok (.imul, 1) := gdX7_spread_63.2.2.1
theorem dX7_spread_68 : decode cX7_spread 68 = .ok (.iload 4, 2) := gdX7_spread_63.2.2.2.1
theorem dX7_spread_70 : decode cX7_spread 70 = .ok (.iadd, 1) := gdX7_spread_63.2.2.2.2.1
theorem dX7_spread_71 : decode cX7_spread 71 = .ok (.invokevirtual 104, 3) := gdX7_spread_63.2.2.2.2.2.1
theorem dX7_spread_74 : decode cX7_spread 74 = .ok (.iadd, 1) := gdX7_spread_63.2.2.2.2.2.2.1
theorem dX7_spread_75 : decode cX7_spread 75 = .ok (.invokevirtual 95, 3) := gdX7_spread_63.2.2.2.2.2.2.2
set_option maxRecDepth 20000 in
theorem gdX7_spread_78 : decode cX7_spread 78 = .ok (.iload_n 2, 1) ∧ decode cX7_spread 79 = .ok (.aload_n 0, 1) ∧ decode cX7_spread 80 = .ok (.getfield 31, 3) ∧ decode cX7_spread 83 = .ok (.if_icmp .ge 24, 3) ∧ decode cX7_spread 86 = .ok (.aload_n 0, 1) ∧ decode cX7_spread 87 = .ok (.iload_n 2, 1) ∧ decode cX7_spread 88 = .ok (.iconst 1, 1) ∧ decode cX7_spread 89 = .ok (.iadd, 1) := by decide +kernel
theorem dX7_spread_78 : decode cX7_spread 78 = .ok (.iload_n 2, 1) := gdX7_spread_78.1
theorem dX7_spread_79 : decode cX7_spread 79 = .ok (.aload_n 0, 1) := gdX7_spread_78.2.1
theorem dX7_spread_80 : decode cX7_spread 80 = .ok (.getfield 31, 3) := gdX7_spread_78.2.2.1
theorem dX7_spread_83 : decode cX7_spread 83 = .ok (.if_icmp .ge 24, 3) := gdX7_spread_78.2.2.2.1
theorem dX7_spread_86 : decode cX7_spread 86 = .ok (.aload_n 0, 1) := gdX7_spread_78.2.2.2.2.1
theorem dX7_spread_87 : decode cX7_spread 87 = .ok (.iload_n 2, 1) := gdX7_spread_78.2.2.2.2.2.1
theorem dX7_spread_88 : decode cX7_spread 88 = .ok (.iconst 1, 1) := gdX7_spread_78.2.2.2.2.2.2.1
theorem dX7_spread_89 : decode cX7_spread 89 = .ok (.iadd, 1) := gdX7_spread_78.2.2.2.2.2.2.2
set_option maxRecDepth 20000 in
theorem gdX7_spread_90 : decode cX7_spread 90 = .ok (.bipush 80, 2) ∧ decode cX7_spread 92 = .ok (.imul, 1) ∧ decode cX7_spread 93 = .ok (.iload 5, 2) ∧ decode cX7_spread 95 = .ok (.iadd, 1) ∧ decode cX7_spread 96 = .ok (.aload_n 0, 1) ∧ decode cX7_spread 97 = .ok (.getfield 15, 3) ∧ decode cX7_spread 100 = .ok (.iload_n 1, 1) ∧ decode cX7_spread 101 = .ok (.iaload, 1) := by decide +kernel
theorem dX7_spread_90 : decode cX7_spread 90 = .ok (.bipush 80, 2) := gdX7_spread_90.1
theorem dX7_spread_92 : decode cX7_spread 92 = .ok (.imul, 1) := gdX7_spread_90.2.1
theorem dX7_spread_93 : decode cX7_spread 93 = .ok (.iload 5, 2) := gdX7_spread_90.2.2.1
theorem dX7_spread_95 : decode cX7_spread 95 = .ok (.iadd, 1) := gdX7_spread_90.2.2.2.1
theorem dX7_spread_96 : decode cX7_spread 96 = .ok (.aload_n 0, 1) := gdX7_spread_90.2.2.2.2.1
theorem dX7_spread_97 : decode cX7_spread 97 = .ok (.getfield 15, 3) := gdX7_spread_90.2.2.2.2.2.1
theorem dX7_spread_100 : decode cX7_spread 100 = .ok (.iload_n 1, 1) := gdX7_spread_90.2.2.2.2.2.2.1
theorem dX7_spread_101 : decode cX7_spread 101 = .ok (.iaload, 1) := gdX7_spread_90.2.2.2.2.2.2.2
set_option maxRecDepth 20000 in
theorem gdX7_spread_102 : decode cX7_spread 102 = .ok (.iconst 1, 1) ∧ decode cX7_spread 103 = .ok (.iadd, 1) ∧ decode cX7_spread 104 = .ok (.invokevirtual 95, 3) ∧ decode cX7_spread 107 = .ok (.iinc 4 1, 3) ∧ decode cX7_spread 110 = .ok (.goto (-97), 3) ∧ decode cX7_spread 113 = .ok (.return_, 1) := by decide +kernel
theorem dX7_spread_102 : decode cX7_spread 102 = .ok (.iconst 1, 1) := gdX7_spread_102.1
theorem dX7_spread_103 : decode cX7_spread 103 = .ok (.iadd, 1) := gdX7_spread_102.2.1
theorem dX7_spread_104 : decode cX7_spread 104 = .ok (.invokevirtual 95, 3) := gdX7_spread_102.2.2.1
theorem dX7_spread_107 : decode cX7_spread 107 = .ok (.iinc 4 1, 3) := gdX7_spread_102.2.2.2.1
theorem dX7_spread_110 : decode cX7_spread 110 = .ok (.goto (-97), 3) := gdX7_spread_102.2.2.2.2.1
theorem dX7_spread_113 : decode cX7_spread 113 = .ok (.return_, 1) := gdX7_spread_102.2.2.2.2.2
set_option maxRecDepth 20000 in
theorem gdX7_weight_0 : decode cX7_weight 0 = .ok (.aload_n 0, 1) ∧ decode cX7_weight 1 = .ok (.getfield 11, 3) ∧ decode cX7_weight 4 = .ok (.aload_n 0, 1) ∧ decode cX7_weight 5 = .ok (.getfield 41, 3) ∧ decode cX7_weight 8 = .ok (.getfield 81, 3) ∧ decode cX7_weight 11 = .ok (.iload_n 1, 1) ∧ decode cX7_weight 12 = .ok (.iaload, 1) ∧ decode cX7_weight 13 = .ok (.iaload, 1) := by decide +kernel
theorem dX7_weight_0 : decode cX7_weight 0 = .ok (.aload_n 0, 1) := gdX7_weight_0.1
theorem dX7_weight_1 : decode cX7_weight 1 = .ok (.getfield 11, 3) := gdX7_weight_0.2.1
theorem dX7_weight_4 : decode cX7_weight 4 = .ok (.aload_n 0, 1) := gdX7_weight_0.2.2.1
theorem dX7_weight_5 : decode cX7_weight 5 = .ok (.getfield 41, 3) := gdX7_weight_0.2.2.2.1
theorem dX7_weight_8 : decode cX7_weight 8 = .ok (.getfield 81, 3) := gdX7_weight_0.2.2.2.2.1
theorem dX7_weight_11 : decode cX7_weight 11 = .ok (.iload_n 1, 1) := gdX7_weight_0.2.2.2.2.2.1
theorem dX7_weight_12 : decode cX7_weight 12 = .ok (.iaload, 1) := gdX7_weight_0.2.2.2.2.2.2.1
theorem dX7_weight_13 : decode cX7_weight 13 = .ok (.iaload, 1) := gdX7_weight_0.2.2.2.2.2.2.2
set_option maxRecDepth 20000 in
theorem gdX7_weight_14 : decode cX7_weight 14 = .ok (.iconst 1, 1) ∧ decode cX7_weight 15 = .ok (.aload_n 0, 1) ∧ decode cX7_weight 16 = .ok (.getfield 41, 3) ∧ decode cX7_weight 19 = .ok (.getfield 98, 3) ∧ decode cX7_weight 22 = .ok (.iload_n 1, 1) ∧ decode cX7_weight 23 = .ok (.iaload, 1) ∧ decode cX7_weight 24 = .ok (.iadd, 1) ∧ decode cX7_weight 25 = .ok (.imul, 1) := by decide +kernel
theorem dX7_weight_14 : decode cX7_weight 14 = .ok (.iconst 1, 1) := gdX7_weight_14.1
theorem dX7_weight_15 : decode cX7_weight 15 = .ok (.aload_n 0, 1) := gdX7_weight_14.2.1
theorem dX7_weight_16 : decode cX7_weight 16 = .ok (.getfield 41, 3) := gdX7_weight_14.2.2.1
theorem dX7_weight_19 : decode cX7_weight 19 = .ok (.getfield 98, 3) := gdX7_weight_14.2.2.2.1
theorem dX7_weight_22 : decode cX7_weight 22 = .ok (.iload_n 1, 1) := gdX7_weight_14.2.2.2.2.1
theorem dX7_weight_23 : decode cX7_weight 23 = .ok (.iaload, 1) := gdX7_weight_14.2.2.2.2.2.1
theorem dX7_weight_24 : decode cX7_weight 24 = .ok (.iadd, 1) := gdX7_weight_14.2.2.2.2.2.2.1
theorem dX7_weight_25 : decode cX7_weight 25 = .ok (.imul, 1) := gdX7_weight_14.2.2.2.2.2.2.2
set_option maxRecDepth 20000 in
theorem gdX7_weight_26 : decode cX7_weight 26 = .ok (.sipush 1024, 3) ∧ decode cX7_weight 29 = .ok (.imul, 1) ∧ decode cX7_weight 30 = .ok (.iconst 1, 1) ∧ decode cX7_weight 31 = .ok (.iadd, 1) ∧ decode cX7_weight 32 = .ok (.ireturn, 1) := by decide +kernel
theorem dX7_weight_26 : decode cX7_weight 26 = .ok (.sipush 1024, 3) := gdX7_weight_26.1
theorem dX7_weight_29 : decode cX7_weight 29 = .ok (.imul, 1) := gdX7_weight_26.2.1
theorem dX7_weight_30 : decode cX7_weight 30 = .ok (.iconst 1, 1) := gdX7_weight_26.2.2.1
theorem dX7_weight_31 : decode cX7_weight 31 = .ok (.iadd, 1) := gdX7_weight_26.2.2.2.1
theorem dX7_weight_32 : decode cX7_weight 32 = .ok (.ireturn, 1) := gdX7_weight_26.2.2.2.2
theorem jX7_after_X6 : ∀ w ∈ u_ws RX6 TX6 4, w ∈ wsX7_after := fun w h => List.mem_cons_of_mem _ (List.mem_append_right _ h)
theorem jX7_after_X7 : ∀ w ∈ u_ws RX7 TX7 11, w ∈ wsX7_after := fun w h => List.mem_cons_of_mem _ (List.mem_append_left _ (List.mem_append_right _ h))
theorem jX7_begin_X1 : ∀ w ∈ u_ws RX1 TX1 12, w ∈ wsX7_begin := fun w h => List.mem_cons_of_mem _ (List.mem_append_right _ h)
theorem jX7_begin_X7 : ∀ w ∈ u_ws RX7 TX7 11, w ∈ wsX7_begin := fun w h => List.mem_cons_of_mem _ (List.mem_append_left _ (List.mem_append_right _ h))
theorem jX7_offer_X7 : ∀ w ∈ u_ws RX7 TX7 11, w ∈ wsX7_offer := fun w h => List.mem_cons_of_mem _ (List.mem_append_right _ h)
theorem jX7_spread_X6 : ∀ w ∈ u_ws RX6 TX6 4, w ∈ wsX7_spread := fun w h => List.mem_cons_of_mem _ (List.mem_append_right _ h)
theorem jX7_spread_X7 : ∀ w ∈ u_ws RX7 TX7 11, w ∈ wsX7_spread := fun w h => List.mem_cons_of_mem _ (List.mem_append_left _ (List.mem_append_right _ h))
theorem jX7_weight_X6 : ∀ w ∈ u_ws RX6 TX6 4, w ∈ wsX7_weight := fun w h => List.mem_cons_of_mem _ (List.mem_append_right _ h)
theorem jX7_weight_X7 : ∀ w ∈ u_ws RX7 TX7 11, w ∈ wsX7_weight := fun w h => List.mem_cons_of_mem _ (List.mem_append_left _ (List.mem_append_right _ h))
theorem hdV_X1_pays : yX1_pays.cls = RX1 ∧ yX1_pays.cls ≠ "java/lang/invoke/MethodHandle" ∧ yX1_pays.cls ≠ "java/lang/invoke/VarHandle" ∧ (parseMethodDescriptor yX1_pays.desc).map (fun d => d.parameters.length) = some 2 := by decide +kernel
theorem hdV_X7_offer : yX7_offer.cls = RX7 ∧ yX7_offer.cls ≠ "java/lang/invoke/MethodHandle" ∧ yX7_offer.cls ≠ "java/lang/invoke/VarHandle" ∧ (parseMethodDescriptor yX7_offer.desc).map (fun d => d.parameters.length) = some 2 := by decide +kernel
theorem hdV_X7_weight : yX7_weight.cls = RX7 ∧ yX7_weight.cls ≠ "java/lang/invoke/MethodHandle" ∧ yX7_weight.cls ≠ "java/lang/invoke/VarHandle" ∧ (parseMethodDescriptor yX7_weight.desc).map (fun d => d.parameters.length) = some 1 := by decide +kernel
theorem xor4n : ∀ j, j < 8 → 0 ≤ (nI j ^^^ (4 : Int32)).toInt ∧ (nI j ^^^ (4 : Int32)).toInt < 8 := by decide +kernel
theorem xor4 {x a : Int32} (e : x = a ^^^ 4) (h : 0 ≤ a.toInt ∧ a.toInt < 8) : 0 ≤ x.toInt ∧ x.toInt < 8 := by
  obtain ⟨j, hj, rfl⟩ := nI_of2 (x := a) (M := 7) (n := 7) rfl (by rw [c_lt (N := 0) rfl]; omega) (by rw [c_le (N := 7) rfl]; omega)
  rw [e]
  exact xor4n j (by first | (and_intros <;> first | with_reducible assumption | (refine Int.le_antisymm ?_ ?_ <;> omega) | omega) | omega)
set_option maxHeartbeats 4000000 in
set_option maxRecDepth 100000 in
theorem s_X7_weight (l : Launch) (D : va_G) (cI cZ cC cS : ClassId) (sq : Nat → Nat) (sz : Nat) (wh : Nat) (wD_ : Nat) (vw : Nat) (vM : Nat) (vF : Nat) (v : Int32) (ct : Nat) (pr : Nat) (wL : Nat) (wQ : Nat) (wE : Nat) (wt : Int32) (tl : Int32) (bd : Int32) (st : Int32) (du : Nat → Int32) (vN : Nat) (vS : Nat) (vm : Nat → Int32) (vf : Nat → Int32) (hrg_vm : rng vm 640 (0) (2)) (hrg_vf : rng vf 640 (0) (6)) (hv : 0 ≤ v.toInt ∧ v.toInt < 640) : mI l yX7_weight wsX7_weight 0 0 D (tyW cI cZ cC cS) sq [(wh, .inr (7, [.ref ct, .ref vw, .ref pr, .ref wD_, .ref wL, .ref wQ, .ref wE, .int wt, .int tl, .int bd, .int st])), (wD_, .inl (cI, 7, .inl du)), (vw, .inr (6, [.ref vN, .ref vS, .ref vM, .ref vF])), (vM, .inl (cI, 640, .inl vm)), (vF, .inl (cI, 640, .inl vf))] sz [.ref wh, .int v] (fun r w => (w = [(wh, .inr (7, [.ref ct, .ref vw, .ref pr, .ref wD_, .ref wL, .ref wQ, .ref wE, .int wt, .int tl, .int bd, .int st])), (wD_, .inl (cI, 7, .inl du)), (vw, .inr (6, [.ref vN, .ref vS, .ref vM, .ref vF])), (vM, .inl (cI, 640, .inl vm)), (vF, .inl (cI, 640, .inl vf))])) := by
  refine b_metI (cc := cX7_weight) (maxL := 2) (ret := (some .int)) (by decide) rfl (Nat.le_of_ble_eq_true rfl) ?_
  intro p e s m below meth c ls A H X hsz hP hK hT hD hA hS hl
  have S : CallFix p m c cX7_weight 2 s ([.ref wh, .int v] : List Value).toArray wsX7_weight RX7 := X.1
  have hl : lv_has ls 2 [(0, .ref wh), (1, .int v)] := hl
  have iX6 := jX7_weight_X6
  have iX7 := jX7_weight_X7
  refine lv_aload_n S.1 S.2.1 dX7_weight_0 rfl (lv_at hl 0 rfl) ?_
  refine b_get (v := .ref wD_) S iX7 hK hP 0 rfl rfl 3 (by decide) (by decide +kernel) rfl dX7_weight_1 ?_
  refine lv_aload_n S.1 S.2.1 dX7_weight_4 rfl (lv_at hl 0 rfl) ?_
  refine b_get (v := .ref vw) S iX7 hK hP 0 rfl rfl 1 (by decide) (by decide +kernel) rfl dX7_weight_5 ?_
  refine b_get (v := .ref vF) S iX6 hK hP 2 rfl rfl 3 (by decide) (by decide +kernel) rfl dX7_weight_8 ?_
  refine lv_iload_n S.1 S.2.1 dX7_weight_11 rfl (lv_at hl 1 rfl) ?_
  have hin_1 : vp_in v 640 := (in_of (n := 640) (by  omega) (by  omega))
  refine va_iald S.1 S.2.1 hK.1 hP 4 0 rfl rfl hin_1 dX7_weight_12 ?_
  refine lv_topi (fun x_2 ex_2 => ?_)
  have tx_2 := rng_get (x := x_2) (show rng vf 640 (0) (6) by assumption) hin_1 ex_2
  have hin_3 : vp_in x_2 7 := (in_of (n := 7) (by  omega) (by  omega))
  refine va_iald S.1 S.2.1 hK.1 hP 1 0 rfl rfl hin_3 dX7_weight_13 ?_
  refine lv_topi (fun x_4 ex_4 => ?_)
  refine lv_iconst (v := (1)) S.1 S.2.1 dX7_weight_14 (by decide) ?_
  refine lv_aload_n S.1 S.2.1 dX7_weight_15 rfl (lv_at hl 0 rfl) ?_
  refine b_get (v := .ref vw) S iX7 hK hP 0 rfl rfl 1 (by decide) (by decide +kernel) rfl dX7_weight_16 ?_
  refine b_get (v := .ref vM) S iX6 hK hP 2 rfl rfl 2 (by decide) (by decide +kernel) rfl dX7_weight_19 ?_
  refine lv_iload_n S.1 S.2.1 dX7_weight_22 rfl (lv_at hl 1 rfl) ?_
  have hin_5 : vp_in v 640 := (in_of (n := 640) (by  omega) (by  omega))
  refine va_iald S.1 S.2.1 hK.1 hP 3 0 rfl rfl hin_5 dX7_weight_23 ?_
  refine lv_topi (fun x_6 ex_6 => ?_)
  have tx_6 := rng_get (x := x_6) (show rng vm 640 (0) (2) by assumption) hin_5 ex_6
  refine lv_iadd S.1 S.2.1 dX7_weight_24 ?_
  refine lv_topi (fun x_7 ex_7 => ?_)
  refine lv_imul S.1 S.2.1 dX7_weight_25 ?_
  refine lv_topi (fun x_8 ex_8 => ?_)
  refine lv_sipush (v := (1024)) S.1 S.2.1 dX7_weight_26 (by decide) ?_
  refine lv_imul S.1 S.2.1 dX7_weight_29 ?_
  refine lv_topi (fun x_9 ex_9 => ?_)
  refine lv_iconst (v := (1)) S.1 S.2.1 dX7_weight_30 (by decide) ?_
  refine lv_iadd S.1 S.2.1 dX7_weight_31 ?_
  refine lv_topi (fun x_10 ex_10 => ?_)
  exact b_iret S.1 S.2.1 X.2.1 X.2.2.1 hP hD hS rfl dX7_weight_32
set_option maxHeartbeats 4000000 in
set_option maxRecDepth 100000 in
theorem s_X7_after (l : Launch) (D : va_G) (cI cZ cC cS : ClassId) (sq : Nat → Nat) (sz : Nat) (wh : Nat) (vw : Nat) (vN : Nat) (k : Int32) (co : Int32) (ct : Nat) (pr : Nat) (wD_ : Nat) (wL : Nat) (wQ : Nat) (wE : Nat) (wt : Int32) (tl : Int32) (bd : Int32) (st : Int32) (vS : Nat) (vM : Nat) (vF : Nat) (vn : Nat → Int32) (hrg_vn : rng vn 640 (-1) (79)) (hst : 0 ≤ k.toInt ∧ k.toInt < 480) (hc : 0 ≤ co.toInt ∧ co.toInt < 16) : mI l yX7_after wsX7_after 0 0 D (tyW cI cZ cC cS) sq [(wh, .inr (7, [.ref ct, .ref vw, .ref pr, .ref wD_, .ref wL, .ref wQ, .ref wE, .int wt, .int tl, .int bd, .int st])), (vw, .inr (6, [.ref vN, .ref vS, .ref vM, .ref vF])), (vN, .inl (cI, 640, .inl vn))] sz [.ref wh, .int k, .int co] (fun r w => ((-1 ≤ r.toInt ∧ r.toInt < 480) ∧ w = [(wh, .inr (7, [.ref ct, .ref vw, .ref pr, .ref wD_, .ref wL, .ref wQ, .ref wE, .int wt, .int tl, .int bd, .int st])), (vw, .inr (6, [.ref vN, .ref vS, .ref vM, .ref vF])), (vN, .inl (cI, 640, .inl vn))])) := by
  refine b_metI (cc := cX7_after) (maxL := 5) (ret := (some .int)) (by decide) rfl (Nat.le_of_ble_eq_true rfl) ?_
  intro p e s m below meth c ls A H X hsz hP hK hT hD hA hS hl
  have S : CallFix p m c cX7_after 5 s ([.ref wh, .int k, .int co] : List Value).toArray wsX7_after RX7 := X.1
  have hl : lv_has ls 5 [(0, .ref wh), (1, .int k), (2, .int co)] := hl
  have iX6 := jX7_after_X6
  have iX7 := jX7_after_X7
  refine lv_aload_n S.1 S.2.1 dX7_after_0 rfl (lv_at hl 0 rfl) ?_
  refine b_get (v := .ref vw) S iX7 hK hP 0 rfl rfl 1 (by decide) (by decide +kernel) rfl dX7_after_1 ?_
  refine b_get (v := .ref vN) S iX6 hK hP 1 rfl rfl 0 (by decide) (by decide +kernel) rfl dX7_after_4 ?_
  refine lv_iload_n S.1 S.2.1 dX7_after_7 rfl (lv_at hl 1 rfl) ?_
  refine lv_bipush (v := (80)) S.1 S.2.1 dX7_after_8 (by decide) ?_
  refine lv_irem S.1 S.2.1 dX7_after_10 (by decide) ?_
  refine lv_topi (fun x_1 ex_1 => ?_)
  have tx_1 : x_1.toInt = k.toInt % 80 := remI (A := k.toInt) (B := 80) ex_1 rfl rfl (by  omega) (by decide)
  refine lv_bipush (v := (8)) S.1 S.2.1 dX7_after_11 (by decide) ?_
  refine lv_imul S.1 S.2.1 dX7_after_13 ?_
  refine lv_topi (fun x_2 ex_2 => ?_)
  have tx_2 : x_2.toInt = x_1.toInt * 8 := mulI (A := x_1.toInt) (B := 8) ex_2 rfl rfl (by  omega) (by  omega)
  refine lv_iload_n S.1 S.2.1 dX7_after_14 rfl (lv_at hl 2 rfl) ?_
  refine lv_bipush (v := (8)) S.1 S.2.1 dX7_after_15 (by decide) ?_
  refine lv_irem S.1 S.2.1 dX7_after_17 (by decide) ?_
  refine lv_topi (fun x_3 ex_3 => ?_)
  have tx_3 : x_3.toInt = co.toInt % 8 := remI (A := co.toInt) (B := 8) ex_3 rfl rfl (by  omega) (by decide)
  refine lv_iadd S.1 S.2.1 dX7_after_18 ?_
  refine lv_topi (fun x_4 ex_4 => ?_)
  have tx_4 : x_4.toInt = x_2.toInt + (x_3.toInt) := addI (A := x_2.toInt) (B := x_3.toInt) ex_4 rfl rfl (by  omega) (by  omega)
  have hin_5 : vp_in x_4 640 := (in_of (n := 640) (by  omega) (by  omega))
  refine va_iald S.1 S.2.1 hK.1 hP 2 0 rfl rfl hin_5 dX7_after_19 ?_
  refine lv_topi (fun x_6 ex_6 => ?_)
  have tx_6 := rng_get (x := x_6) (show rng vn 640 (-1) (79) by assumption) hin_5 ex_6
  refine lv_istore_n (lv' := [(3, .int x_6), (0, .ref wh), (1, .int k), (2, .int co)]) S.1 S.2.1 dX7_after_20 rfl hl (by decide) rfl (fun ls hl => ?_)
  refine lv_iload_n S.1 S.2.1 dX7_after_21 rfl (lv_at hl 3 rfl) ?_
  refine lv_bipush (v := (8)) S.1 S.2.1 dX7_after_22 (by decide) ?_
  refine lv_icmp_ge (tgt := 34) S.1 S.2.1 dX7_after_24 (by decide) (fun c_7 => ?_) (fun c_7 => ?_)
  · rw [le2 (a := 8) (b := co) (A := 8) (B := co.toInt) rfl rfl] at c_7
    refine lv_iload_n S.1 S.2.1 dX7_after_34 rfl (lv_at hl 2 rfl) ?_
    refine lv_bipush (v := (80)) S.1 S.2.1 dX7_after_35 (by decide) ?_
    refine lv_idiv S.1 S.2.1 dX7_after_37 (by decide) ?_
    refine lv_topi (fun x_8 ex_8 => ?_)
    have tx_8 : x_8.toInt = k.toInt / 80 := divI (A := k.toInt) (B := 80) ex_8 rfl rfl (by  omega) (by decide)
    refine lv_iconst (v := (1)) S.1 S.2.1 dX7_after_38 (by decide) ?_
    refine lv_isub S.1 S.2.1 dX7_after_39 ?_
    refine lv_topi (fun x_9 ex_9 => ?_)
    have tx_9 : x_9.toInt = x_8.toInt - (1) := subI (A := x_8.toInt) (B := 1) ex_9 rfl rfl (by  omega) (by  omega)
    refine lv_istore (lv' := [(4, .int x_9), (3, .int x_6), (0, .ref wh), (1, .int k), (2, .int co)]) S.1 S.2.1 dX7_after_40 hl (by decide) rfl (fun ls hl => ?_)
    refine lv_iload_n S.1 S.2.1 dX7_after_42 rfl (lv_at hl 1 rfl) ?_
    refine lv_iconst (v := (-1)) S.1 S.2.1 dX7_after_43 (by decide) ?_
    refine lv_icmp_eq (tgt := 52) S.1 S.2.1 dX7_after_44 (by decide) (fun c_10 => ?_) (fun c_10 => ?_)
    · rw [eq2 (a := x_6) (b := (-1)) (A := x_6.toInt) (B := -1) rfl rfl] at c_10
      refine lv_iconst (v := (-1)) S.1 S.2.1 dX7_after_52 (by decide) ?_
      refine lv_goto (tgt := 63) S.1 S.2.1 dX7_after_53 (by decide) ?_
      have lqm1 : Int32.toInt (-1) = -1 := by decide
      exact b_iret S.1 S.2.1 X.2.1 X.2.2.1 hP hD hS ⟨(by first | with_reducible assumption | decide | (and_intros <;> first | with_reducible assumption | (intros; refine Int.le_antisymm ?_ ?_ <;> omega) | omega) | assumption | (rw [show Int32.toInt 0 = 0 from rfl]; omega)), rfl⟩ dX7_after_63
    · rw [eq2 (a := x_6) (b := (-1)) (A := x_6.toInt) (B := -1) rfl rfl] at c_10
      refine lv_iload S.1 S.2.1 dX7_after_47 (lv_at hl 0 rfl) ?_
      refine lv_if_ge (tgt := 56) S.1 S.2.1 dX7_after_49 (by decide) (fun c_11 => ?_) (fun c_11 => ?_)
      · rw [le2 (a := 0) (b := x_9) (A := 0) (B := x_9.toInt) rfl rfl] at c_11
        refine lv_iload S.1 S.2.1 dX7_after_56 (lv_at hl 0 rfl) ?_
        refine lv_bipush (v := (80)) S.1 S.2.1 dX7_after_58 (by decide) ?_
        refine lv_imul S.1 S.2.1 dX7_after_60 ?_
        refine lv_topi (fun x_12 ex_12 => ?_)
        have tx_12 : x_12.toInt = x_9.toInt * 80 := mulI (A := x_9.toInt) (B := 80) ex_12 rfl rfl (by  omega) (by  omega)
        refine lv_iload_n S.1 S.2.1 dX7_after_61 rfl (lv_at hl 1 rfl) ?_
        refine lv_iadd S.1 S.2.1 dX7_after_62 ?_
        refine lv_topi (fun x_13 ex_13 => ?_)
        have tx_13 : x_13.toInt = x_12.toInt + (x_6.toInt) := addI (A := x_12.toInt) (B := x_6.toInt) ex_13 rfl rfl (by  omega) (by  omega)
        exact b_iret S.1 S.2.1 X.2.1 X.2.2.1 hP hD hS ⟨(by first | with_reducible assumption | decide | (and_intros <;> first | with_reducible assumption | (intros; refine Int.le_antisymm ?_ ?_ <;> omega) | omega) | assumption | (rw [show Int32.toInt 0 = 0 from rfl]; omega)), rfl⟩ dX7_after_63
      · rw [le2 (a := 0) (b := x_9) (A := 0) (B := x_9.toInt) rfl rfl] at c_11
        refine lv_iconst (v := (-1)) S.1 S.2.1 dX7_after_52 (by decide) ?_
        refine lv_goto (tgt := 63) S.1 S.2.1 dX7_after_53 (by decide) ?_
        have lqm1 : Int32.toInt (-1) = -1 := by decide
        exact b_iret S.1 S.2.1 X.2.1 X.2.2.1 hP hD hS ⟨(by first | with_reducible assumption | decide | (and_intros <;> first | with_reducible assumption | (intros; refine Int.le_antisymm ?_ ?_ <;> omega) | omega) | assumption | (rw [show Int32.toInt 0 = 0 from rfl]; omega)), rfl⟩ dX7_after_63
  · rw [le2 (a := 8) (b := co) (A := 8) (B := co.toInt) rfl rfl] at c_7
    refine lv_iload_n S.1 S.2.1 dX7_after_27 rfl (lv_at hl 2 rfl) ?_
    refine lv_bipush (v := (80)) S.1 S.2.1 dX7_after_28 (by decide) ?_
    refine lv_idiv S.1 S.2.1 dX7_after_30 (by decide) ?_
    refine lv_topi (fun x_14 ex_14 => ?_)
    have tx_14 : x_14.toInt = k.toInt / 80 := divI (A := k.toInt) (B := 80) ex_14 rfl rfl (by  omega) (by decide)
    refine lv_goto (tgt := 40) S.1 S.2.1 dX7_after_31 (by decide) ?_
    refine lv_istore (lv' := [(4, .int x_14), (3, .int x_6), (0, .ref wh), (1, .int k), (2, .int co)]) S.1 S.2.1 dX7_after_40 hl (by decide) rfl (fun ls hl => ?_)
    refine lv_iload_n S.1 S.2.1 dX7_after_42 rfl (lv_at hl 1 rfl) ?_
    refine lv_iconst (v := (-1)) S.1 S.2.1 dX7_after_43 (by decide) ?_
    refine lv_icmp_eq (tgt := 52) S.1 S.2.1 dX7_after_44 (by decide) (fun c_15 => ?_) (fun c_15 => ?_)
    · rw [eq2 (a := x_6) (b := (-1)) (A := x_6.toInt) (B := -1) rfl rfl] at c_15
      refine lv_iconst (v := (-1)) S.1 S.2.1 dX7_after_52 (by decide) ?_
      refine lv_goto (tgt := 63) S.1 S.2.1 dX7_after_53 (by decide) ?_
      have lqm1 : Int32.toInt (-1) = -1 := by decide
      exact b_iret S.1 S.2.1 X.2.1 X.2.2.1 hP hD hS ⟨(by first | with_reducible assumption | decide | (and_intros <;> first | with_reducible assumption | (intros; refine Int.le_antisymm ?_ ?_ <;> omega) | omega) | assumption | (rw [show Int32.toInt 0 = 0 from rfl]; omega)), rfl⟩ dX7_after_63
    · rw [eq2 (a := x_6) (b := (-1)) (A := x_6.toInt) (B := -1) rfl rfl] at c_15
      refine lv_iload S.1 S.2.1 dX7_after_47 (lv_at hl 0 rfl) ?_
      refine lv_if_ge (tgt := 56) S.1 S.2.1 dX7_after_49 (by decide) (fun c_16 => ?_) (fun c_16 => ?_)
      · rw [le2 (a := 0) (b := x_14) (A := 0) (B := x_14.toInt) rfl rfl] at c_16
        refine lv_iload S.1 S.2.1 dX7_after_56 (lv_at hl 0 rfl) ?_
        refine lv_bipush (v := (80)) S.1 S.2.1 dX7_after_58 (by decide) ?_
        refine lv_imul S.1 S.2.1 dX7_after_60 ?_
        refine lv_topi (fun x_17 ex_17 => ?_)
        have tx_17 : x_17.toInt = x_14.toInt * 80 := mulI (A := x_14.toInt) (B := 80) ex_17 rfl rfl (by  omega) (by  omega)
        refine lv_iload_n S.1 S.2.1 dX7_after_61 rfl (lv_at hl 1 rfl) ?_
        refine lv_iadd S.1 S.2.1 dX7_after_62 ?_
        refine lv_topi (fun x_18 ex_18 => ?_)
        have tx_18 : x_18.toInt = x_17.toInt + (x_6.toInt) := addI (A := x_17.toInt) (B := x_6.toInt) ex_18 rfl rfl (by  omega) (by  omega)
        exact b_iret S.1 S.2.1 X.2.1 X.2.2.1 hP hD hS ⟨(by first | with_reducible assumption | decide | (and_intros <;> first | with_reducible assumption | (intros; refine Int.le_antisymm ?_ ?_ <;> omega) | omega) | assumption | (rw [show Int32.toInt 0 = 0 from rfl]; omega)), rfl⟩ dX7_after_63
      · rw [le2 (a := 0) (b := x_14) (A := 0) (B := x_14.toInt) rfl rfl] at c_16
        refine lv_iconst (v := (-1)) S.1 S.2.1 dX7_after_52 (by decide) ?_
        refine lv_goto (tgt := 63) S.1 S.2.1 dX7_after_53 (by decide) ?_
        have lqm1 : Int32.toInt (-1) = -1 := by decide
        exact b_iret S.1 S.2.1 X.2.1 X.2.2.1 hP hD hS ⟨(by first | with_reducible assumption | decide | (and_intros <;> first | with_reducible assumption | (intros; refine Int.le_antisymm ?_ ?_ <;> omega) | omega) | assumption | (rw [show Int32.toInt 0 = 0 from rfl]; omega)), rfl⟩ dX7_after_63
set_option maxHeartbeats 4000000 in
set_option maxRecDepth 100000 in
theorem s_X7_offer (l : Launch) (D : va_G) (cI cZ cC cS : ClassId) (sq : Nat → Nat) (sz : Nat) (wh : Nat) (wL : Nat) (wQ : Nat) (wE : Nat) (k : Int32) (we : Int32) (ct : Nat) (vw : Nat) (pr : Nat) (wD_ : Nat) (wt : Int32) (tl : Int32) (bd : Int32) (st : Int32) (lf : Nat → Int32) (qu : Nat → Int32) (qd : Nat → Int32) (hrg_qu : rng qu 480 (0) (479)) (hst : 0 ≤ k.toInt ∧ k.toInt < 480) (ht : 0 ≤ tl.toInt ∧ tl.toInt < 480) (hs : 0 ≤ st.toInt ∧ st.toInt < 480) : mV l yX7_offer wsX7_offer 0 0 0 0 D (tyW cI cZ cC cS) sq [(wh, .inr (7, [.ref ct, .ref vw, .ref pr, .ref wD_, .ref wL, .ref wQ, .ref wE, .int wt, .int tl, .int bd, .int st])), (wL, .inl (cI, 480, .inl lf)), (wQ, .inl (cI, 480, .inl qu)), (wE, .inl (cI, 480, .inl qd))] sz [.ref wh, .int k, .int we] (fun w => (∃ (wt2 : Int32), ∃ (tl2 : Int32), ∃ (lf2 : Nat → Int32), ∃ (qu2 : Nat → Int32), ∃ (qd2 : Nat → Int32), (rng qu2 480 (0) (479)) ∧ (0 ≤ tl2.toInt ∧ tl2.toInt < 480) ∧ w = [(wh, .inr (7, [.ref ct, .ref vw, .ref pr, .ref wD_, .ref wL, .ref wQ, .ref wE, .int wt2, .int tl2, .int bd, .int st])), (wL, .inl (cI, 480, .inl lf2)), (wQ, .inl (cI, 480, .inl qu2)), (wE, .inl (cI, 480, .inl qd2))])) := by
  refine b_metV (cc := cX7_offer) (maxL := 3) (ret := none) (by decide) rfl (Nat.le_of_ble_eq_true rfl) ?_
  intro p e s m below meth c ls A H X hsz hP hK hT hD hA hS hl
  have S : CallFix p m c cX7_offer 3 s ([.ref wh, .int k, .int we] : List Value).toArray wsX7_offer RX7 := X.1
  have hl : lv_has ls 3 [(0, .ref wh), (1, .int k), (2, .int we)] := hl
  have iX7 := jX7_offer_X7
  refine lv_iload_n S.1 S.2.1 dX7_offer_0 rfl (lv_at hl 2 rfl) ?_
  refine lv_aload_n S.1 S.2.1 dX7_offer_1 rfl (lv_at hl 0 rfl) ?_
  refine b_get (v := .ref wL) S iX7 hK hP 0 rfl rfl 4 (by decide) (by decide +kernel) rfl dX7_offer_2 ?_
  refine lv_iload_n S.1 S.2.1 dX7_offer_5 rfl (lv_at hl 1 rfl) ?_
  have hin_1 : vp_in k 480 := (in_of (n := 480) (by  omega) (by  omega))
  refine va_iald S.1 S.2.1 hK.1 hP 1 0 rfl rfl hin_1 dX7_offer_6 ?_
  refine lv_topi (fun x_2 ex_2 => ?_)
  refine lv_icmp_ge (tgt := 23) S.1 S.2.1 dX7_offer_7 (by decide) (fun c_3 => ?_) (fun c_3 => ?_)
  · rw [le2 (a := x_2) (b := we) (A := x_2.toInt) (B := we.toInt) rfl rfl] at c_3
    exact b_vret S.1 S.2.1 X.2.1 X.2.2.1 hP hD hS ⟨wt, tl, lf, qu, qd, (by first | with_reducible assumption | assumption | omega | decide | (rw [show Int32.toInt 0 = 0 from rfl]; omega)), (by first | with_reducible assumption | decide | (and_intros <;> first | with_reducible assumption | (intros; refine Int.le_antisymm ?_ ?_ <;> omega) | omega) | assumption | (rw [show Int32.toInt 0 = 0 from rfl]; omega)), rfl⟩ dX7_offer_23
  · rw [le2 (a := x_2) (b := we) (A := x_2.toInt) (B := we.toInt) rfl rfl] at c_3
    refine lv_iload_n S.1 S.2.1 dX7_offer_10 rfl (lv_at hl 2 rfl) ?_
    refine lv_aload_n S.1 S.2.1 dX7_offer_11 rfl (lv_at hl 0 rfl) ?_
    refine b_get (v := .ref wL) S iX7 hK hP 0 rfl rfl 4 (by decide) (by decide +kernel) rfl dX7_offer_12 ?_
    refine lv_aload_n S.1 S.2.1 dX7_offer_15 rfl (lv_at hl 0 rfl) ?_
    refine b_get (v := .int st) S iX7 hK hP 0 rfl rfl 10 (by decide) (by decide +kernel) rfl dX7_offer_16 ?_
    have hin_4 : vp_in st 480 := (in_of (n := 480) (by  omega) (by  omega))
    refine va_iald S.1 S.2.1 hK.1 hP 1 0 rfl rfl hin_4 dX7_offer_19 ?_
    refine lv_topi (fun x_5 ex_5 => ?_)
    refine lv_icmp_lt (tgt := 24) S.1 S.2.1 dX7_offer_20 (by decide) (fun c_6 => ?_) (fun c_6 => ?_)
    · rw [lt2 (a := we) (b := x_5) (A := we.toInt) (B := x_5.toInt) rfl rfl] at c_6
      refine lv_aload_n S.1 S.2.1 dX7_offer_24 rfl (lv_at hl 0 rfl) ?_
      refine b_get (v := .ref wL) S iX7 hK hP 0 rfl rfl 4 (by decide) (by decide +kernel) rfl dX7_offer_25 ?_
      refine lv_iload_n S.1 S.2.1 dX7_offer_28 rfl (lv_at hl 1 rfl) ?_
      refine lv_iload_n S.1 S.2.1 dX7_offer_29 rfl (lv_at hl 2 rfl) ?_
      refine va_iast S.1 S.2.1 hK.1 hP hD hS 1 0 rfl rfl (in_of (n := 480) (by  omega) (by  omega)) dX7_offer_30 (fun H locs hP hD hS => ?_)
      obtain ⟨f_7, hf_7⟩ : ∃ g, (upd lf k.toNatClampNeg (we)) = g := ⟨_, rfl⟩
      have hP : va_P D vwCl [(wh, .inr (7, [.ref ct, .ref vw, .ref pr, .ref wD_, .ref wL, .ref wQ, .ref wE, .int wt, .int tl, .int bd, .int st])), (wL, .inl (cI, 480, .inl (upd lf k.toNatClampNeg (we)))), (wQ, .inl (cI, 480, .inl qu)), (wE, .inl (cI, 480, .inl qd))] H := hP
      have hD : va_D A [(wh, .inr (7, [.ref ct, .ref vw, .ref pr, .ref wD_, .ref wL, .ref wQ, .ref wE, .int wt, .int tl, .int bd, .int st])), (wL, .inl (cI, 480, .inl (upd lf k.toNatClampNeg (we)))), (wQ, .inl (cI, 480, .inl qu)), (wE, .inl (cI, 480, .inl qd))] := hD
      rw [hf_7] at hP hD
      refine lv_aload_n S.1 S.2.1 dX7_offer_31 rfl (lv_at hl 0 rfl) ?_
      refine b_get (v := .ref wE) S iX7 hK hP 0 rfl rfl 6 (by decide) (by decide +kernel) rfl dX7_offer_32 ?_
      refine lv_iload_n S.1 S.2.1 dX7_offer_35 rfl (lv_at hl 1 rfl) ?_
      have hin_8 : vp_in k 480 := (in_of (n := 480) (by  omega) (by  omega))
      refine va_iald S.1 S.2.1 hK.1 hP 3 0 rfl rfl hin_8 dX7_offer_36 ?_
      refine lv_topi (fun x_9 ex_9 => ?_)
      refine lv_if_ne (tgt := 93) S.1 S.2.1 dX7_offer_37 (by decide) (fun c_10 => ?_) (fun c_10 => ?_)
      · rw [eq2 (a := x_9) (b := 0) (A := x_9.toInt) (B := 0) rfl rfl] at c_10
        exact b_vret S.1 S.2.1 X.2.1 X.2.2.1 hP hD hS ⟨wt, tl, f_7, qu, qd, (by first | with_reducible assumption | assumption | omega | decide | (rw [show Int32.toInt 0 = 0 from rfl]; omega)), (by first | with_reducible assumption | decide | (and_intros <;> first | with_reducible assumption | (intros; refine Int.le_antisymm ?_ ?_ <;> omega) | omega) | assumption | (rw [show Int32.toInt 0 = 0 from rfl]; omega)), rfl⟩ dX7_offer_93
      · rw [eq2 (a := x_9) (b := 0) (A := x_9.toInt) (B := 0) rfl rfl] at c_10
        refine lv_aload_n S.1 S.2.1 dX7_offer_40 rfl (lv_at hl 0 rfl) ?_
        refine b_get (v := .ref wE) S iX7 hK hP 0 rfl rfl 6 (by decide) (by decide +kernel) rfl dX7_offer_41 ?_
        refine lv_iload_n S.1 S.2.1 dX7_offer_44 rfl (lv_at hl 1 rfl) ?_
        refine lv_iconst (v := (1)) S.1 S.2.1 dX7_offer_45 (by decide) ?_
        refine va_iast S.1 S.2.1 hK.1 hP hD hS 3 0 rfl rfl (in_of (n := 480) (by  omega) (by  omega)) dX7_offer_46 (fun H locs hP hD hS => ?_)
        obtain ⟨f_11, hf_11⟩ : ∃ g, (upd qd k.toNatClampNeg (1)) = g := ⟨_, rfl⟩
        have hP : va_P D vwCl [(wh, .inr (7, [.ref ct, .ref vw, .ref pr, .ref wD_, .ref wL, .ref wQ, .ref wE, .int wt, .int tl, .int bd, .int st])), (wL, .inl (cI, 480, .inl f_7)), (wQ, .inl (cI, 480, .inl qu)), (wE, .inl (cI, 480, .inl (upd qd k.toNatClampNeg (1))))] H := hP
        have hD : va_D A [(wh, .inr (7, [.ref ct, .ref vw, .ref pr, .ref wD_, .ref wL, .ref wQ, .ref wE, .int wt, .int tl, .int bd, .int st])), (wL, .inl (cI, 480, .inl f_7)), (wQ, .inl (cI, 480, .inl qu)), (wE, .inl (cI, 480, .inl (upd qd k.toNatClampNeg (1))))] := hD
        rw [hf_11] at hP hD
        refine lv_aload_n S.1 S.2.1 dX7_offer_47 rfl (lv_at hl 0 rfl) ?_
        refine b_get (v := .ref wQ) S iX7 hK hP 0 rfl rfl 5 (by decide) (by decide +kernel) rfl dX7_offer_48 ?_
        refine lv_aload_n S.1 S.2.1 dX7_offer_51 rfl (lv_at hl 0 rfl) ?_
        refine b_get (v := .int tl) S iX7 hK hP 0 rfl rfl 8 (by decide) (by decide +kernel) rfl dX7_offer_52 ?_
        refine lv_iload_n S.1 S.2.1 dX7_offer_55 rfl (lv_at hl 1 rfl) ?_
        refine va_iast S.1 S.2.1 hK.1 hP hD hS 2 0 rfl rfl (in_of (n := 480) (by  omega) (by  omega)) dX7_offer_56 (fun H locs hP hD hS => ?_)
        obtain ⟨f_12, hf_12, rf_12⟩ : ∃ g, (upd qu tl.toNatClampNeg (k)) = g ∧ rng g 480 (0) (479) := ⟨_, rfl, rng_upd (by first | with_reducible assumption | assumption) (show (0 : Int) ≤ (k : Int32).toInt ∧ (k : Int32).toInt ≤ 479 from by omega)⟩
        have hP : va_P D vwCl [(wh, .inr (7, [.ref ct, .ref vw, .ref pr, .ref wD_, .ref wL, .ref wQ, .ref wE, .int wt, .int tl, .int bd, .int st])), (wL, .inl (cI, 480, .inl f_7)), (wQ, .inl (cI, 480, .inl (upd qu tl.toNatClampNeg (k)))), (wE, .inl (cI, 480, .inl f_11))] H := hP
        have hD : va_D A [(wh, .inr (7, [.ref ct, .ref vw, .ref pr, .ref wD_, .ref wL, .ref wQ, .ref wE, .int wt, .int tl, .int bd, .int st])), (wL, .inl (cI, 480, .inl f_7)), (wQ, .inl (cI, 480, .inl (upd qu tl.toNatClampNeg (k)))), (wE, .inl (cI, 480, .inl f_11))] := hD
        rw [hf_12] at hP hD
        refine lv_aload_n S.1 S.2.1 dX7_offer_57 rfl (lv_at hl 0 rfl) ?_
        refine lv_aload_n S.1 S.2.1 dX7_offer_58 rfl (lv_at hl 0 rfl) ?_
        refine b_get (v := .int tl) S iX7 hK hP 0 rfl rfl 8 (by decide) (by decide +kernel) rfl dX7_offer_59 ?_
        refine lv_iconst (v := (1)) S.1 S.2.1 dX7_offer_62 (by decide) ?_
        refine lv_iadd S.1 S.2.1 dX7_offer_63 ?_
        refine lv_topi (fun x_13 ex_13 => ?_)
        have tx_13 : x_13.toInt = tl.toInt + (1) := addI (A := tl.toInt) (B := 1) ex_13 rfl rfl (by  omega) (by  omega)
        refine lv_sipush (v := (480)) S.1 S.2.1 dX7_offer_64 (by decide) ?_
        refine lv_icmp_ge (tgt := 79) S.1 S.2.1 dX7_offer_67 (by decide) (fun c_14 => ?_) (fun c_14 => ?_)
        · rw [le2 (a := 480) (b := x_13) (A := 480) (B := x_13.toInt) rfl rfl] at c_14
          refine lv_iconst (v := (0)) S.1 S.2.1 dX7_offer_79 (by decide) ?_
          refine b_put (v := .int 0) S iX7 tyX7 tyX7_ok nmX7 hK hP hD hS 0 rfl rfl 8 (by decide) (by decide +kernel) rfl rfl rfl (Nat.le_of_ble_eq_true rfl) dX7_offer_80 (fun H locs hP hD hS => ?_)
          have hP : va_P D vwCl [(wh, .inr (7, [.ref ct, .ref vw, .ref pr, .ref wD_, .ref wL, .ref wQ, .ref wE, .int wt, .int 0, .int bd, .int st])), (wL, .inl (cI, 480, .inl f_7)), (wQ, .inl (cI, 480, .inl f_12)), (wE, .inl (cI, 480, .inl f_11))] H := hP
          have hD : va_D A [(wh, .inr (7, [.ref ct, .ref vw, .ref pr, .ref wD_, .ref wL, .ref wQ, .ref wE, .int wt, .int 0, .int bd, .int st])), (wL, .inl (cI, 480, .inl f_7)), (wQ, .inl (cI, 480, .inl f_12)), (wE, .inl (cI, 480, .inl f_11))] := hD
          refine lv_aload_n S.1 S.2.1 dX7_offer_83 rfl (lv_at hl 0 rfl) ?_
          refine lv_dup S.1 S.2.1 dX7_offer_84 rfl ?_
          refine b_get (v := .int wt) S iX7 hK hP 0 rfl rfl 7 (by decide) (by decide +kernel) rfl dX7_offer_85 ?_
          refine lv_iconst (v := (1)) S.1 S.2.1 dX7_offer_88 (by decide) ?_
          refine lv_iadd S.1 S.2.1 dX7_offer_89 ?_
          refine lv_topi (fun x_15 ex_15 => ?_)
          refine b_put (v := .int x_15) S iX7 tyX7 tyX7_ok nmX7 hK hP hD hS 0 rfl rfl 7 (by decide) (by decide +kernel) rfl rfl rfl (Nat.le_of_ble_eq_true rfl) dX7_offer_90 (fun H locs hP hD hS => ?_)
          have hP : va_P D vwCl [(wh, .inr (7, [.ref ct, .ref vw, .ref pr, .ref wD_, .ref wL, .ref wQ, .ref wE, .int x_15, .int 0, .int bd, .int st])), (wL, .inl (cI, 480, .inl f_7)), (wQ, .inl (cI, 480, .inl f_12)), (wE, .inl (cI, 480, .inl f_11))] H := hP
          have hD : va_D A [(wh, .inr (7, [.ref ct, .ref vw, .ref pr, .ref wD_, .ref wL, .ref wQ, .ref wE, .int x_15, .int 0, .int bd, .int st])), (wL, .inl (cI, 480, .inl f_7)), (wQ, .inl (cI, 480, .inl f_12)), (wE, .inl (cI, 480, .inl f_11))] := hD
          have lq0 : Int32.toInt (0) = 0 := by decide
          exact b_vret S.1 S.2.1 X.2.1 X.2.2.1 hP hD hS ⟨x_15, (0), f_7, f_12, f_11, (by first | with_reducible assumption | assumption | omega | decide | (rw [show Int32.toInt 0 = 0 from rfl]; omega)), (by first | with_reducible assumption | decide | (and_intros <;> first | with_reducible assumption | (intros; refine Int.le_antisymm ?_ ?_ <;> omega) | omega) | assumption | (rw [show Int32.toInt 0 = 0 from rfl]; omega)), rfl⟩ dX7_offer_93
        · rw [le2 (a := 480) (b := x_13) (A := 480) (B := x_13.toInt) rfl rfl] at c_14
          refine lv_aload_n S.1 S.2.1 dX7_offer_70 rfl (lv_at hl 0 rfl) ?_
          refine b_get (v := .int tl) S iX7 hK hP 0 rfl rfl 8 (by decide) (by decide +kernel) rfl dX7_offer_71 ?_
          refine lv_iconst (v := (1)) S.1 S.2.1 dX7_offer_74 (by decide) ?_
          refine lv_iadd S.1 S.2.1 dX7_offer_75 ?_
          refine lv_topi (fun x_16 ex_16 => ?_)
          have tx_16 : x_16.toInt = tl.toInt + (1) := addI (A := tl.toInt) (B := 1) ex_16 rfl rfl (by  omega) (by  omega)
          refine lv_goto (tgt := 80) S.1 S.2.1 dX7_offer_76 (by decide) ?_
          refine b_put (v := .int x_16) S iX7 tyX7 tyX7_ok nmX7 hK hP hD hS 0 rfl rfl 8 (by decide) (by decide +kernel) rfl rfl rfl (Nat.le_of_ble_eq_true rfl) dX7_offer_80 (fun H locs hP hD hS => ?_)
          have hP : va_P D vwCl [(wh, .inr (7, [.ref ct, .ref vw, .ref pr, .ref wD_, .ref wL, .ref wQ, .ref wE, .int wt, .int x_16, .int bd, .int st])), (wL, .inl (cI, 480, .inl f_7)), (wQ, .inl (cI, 480, .inl f_12)), (wE, .inl (cI, 480, .inl f_11))] H := hP
          have hD : va_D A [(wh, .inr (7, [.ref ct, .ref vw, .ref pr, .ref wD_, .ref wL, .ref wQ, .ref wE, .int wt, .int x_16, .int bd, .int st])), (wL, .inl (cI, 480, .inl f_7)), (wQ, .inl (cI, 480, .inl f_12)), (wE, .inl (cI, 480, .inl f_11))] := hD
          refine lv_aload_n S.1 S.2.1 dX7_offer_83 rfl (lv_at hl 0 rfl) ?_
          refine lv_dup S.1 S.2.1 dX7_offer_84 rfl ?_
          refine b_get (v := .int wt) S iX7 hK hP 0 rfl rfl 7 (by decide) (by decide +kernel) rfl dX7_offer_85 ?_
          refine lv_iconst (v := (1)) S.1 S.2.1 dX7_offer_88 (by decide) ?_
          refine lv_iadd S.1 S.2.1 dX7_offer_89 ?_
          refine lv_topi (fun x_17 ex_17 => ?_)
          refine b_put (v := .int x_17) S iX7 tyX7 tyX7_ok nmX7 hK hP hD hS 0 rfl rfl 7 (by decide) (by decide +kernel) rfl rfl rfl (Nat.le_of_ble_eq_true rfl) dX7_offer_90 (fun H locs hP hD hS => ?_)
          have hP : va_P D vwCl [(wh, .inr (7, [.ref ct, .ref vw, .ref pr, .ref wD_, .ref wL, .ref wQ, .ref wE, .int x_17, .int x_16, .int bd, .int st])), (wL, .inl (cI, 480, .inl f_7)), (wQ, .inl (cI, 480, .inl f_12)), (wE, .inl (cI, 480, .inl f_11))] H := hP
          have hD : va_D A [(wh, .inr (7, [.ref ct, .ref vw, .ref pr, .ref wD_, .ref wL, .ref wQ, .ref wE, .int x_17, .int x_16, .int bd, .int st])), (wL, .inl (cI, 480, .inl f_7)), (wQ, .inl (cI, 480, .inl f_12)), (wE, .inl (cI, 480, .inl f_11))] := hD
          exact b_vret S.1 S.2.1 X.2.1 X.2.2.1 hP hD hS ⟨x_17, x_16, f_7, f_12, f_11, (by first | with_reducible assumption | assumption | omega | decide | (rw [show Int32.toInt 0 = 0 from rfl]; omega)), (by first | with_reducible assumption | decide | (and_intros <;> first | with_reducible assumption | (intros; refine Int.le_antisymm ?_ ?_ <;> omega) | omega) | assumption | (rw [show Int32.toInt 0 = 0 from rfl]; omega)), rfl⟩ dX7_offer_93
    · rw [lt2 (a := we) (b := x_5) (A := we.toInt) (B := x_5.toInt) rfl rfl] at c_6
      exact b_vret S.1 S.2.1 X.2.1 X.2.2.1 hP hD hS ⟨wt, tl, lf, qu, qd, (by first | with_reducible assumption | assumption | omega | decide | (rw [show Int32.toInt 0 = 0 from rfl]; omega)), (by first | with_reducible assumption | decide | (and_intros <;> first | with_reducible assumption | (intros; refine Int.le_antisymm ?_ ?_ <;> omega) | omega) | assumption | (rw [show Int32.toInt 0 = 0 from rfl]; omega)), rfl⟩ dX7_offer_23
set_option maxHeartbeats 4000000 in
set_option maxRecDepth 100000 in
theorem lp_spread {p : Program} (l : Launch) {e : Env} {s : State} {m : MethodId} {below : List Frame} {meth : Method} {c : Code} (D : va_G) (cI cZ cC cS : ClassId) (sq : Nat → Nat) (wh : Nat) (wD_ : Nat) (wL : Nat) (wQ : Nat) (wE : Nat) (vw : Nat) (vN : Nat) (vM : Nat) (vF : Nat) (k : Int32) (ct : Nat) (pr : Nat) (wt : Int32) (tl : Int32) (bd : Int32) (st : Int32) (du : Nat → Int32) (lf : Nat → Int32) (qu : Nat → Int32) (qd : Nat → Int32) (vS : Nat) (vn : Nat → Int32) (vm : Nat → Int32) (vf : Nat → Int32) (hrg_qu : rng qu 480 (0) (479)) (hrg_vn : rng vn 640 (-1) (79)) (hrg_vm : rng vm 640 (0) (2)) (hrg_vf : rng vf 640 (0) (6)) (hst : 0 ≤ k.toInt ∧ k.toInt < 480) (ht : 0 ≤ tl.toInt ∧ tl.toInt < 480) (hs : 0 ≤ st.toInt ∧ st.toInt < 480) (hb : 0 ≤ bd.toInt ∧ bd.toInt ≤ 5) (ce : Int32) (la : Int32) (hce : 0 ≤ ce.toInt ∧ ce.toInt < 80) (hla : 0 ≤ la.toInt ∧ la.toInt ≤ 5) {A : Nat → Prop} (X : bX p s m meth c cX7_spread 6 wsX7_spread yX7_spread none [.ref wh, .int k]) (hK : kW D (tyW cI cZ cC cS) sq s) (hT : sT sq A s s.heap) (hA : ∀ q, s.heap.size ≤ q → A q) (K : ∀ (i : Int32) (wt : Int32) (tl : Int32) (lf : Nat → Int32) (qu : Nat → Int32) (qd : Nat → Int32), (rng qu 480 (0) (479)) → (rng vn 640 (-1) (79)) → (rng vm 640 (0) (2)) → (rng vf 640 (0) (6)) → (0 ≤ i.toInt ∧ i.toInt ≤ 8) → (0 ≤ tl.toInt ∧ tl.toInt < 480) → ∀ (H : Heap) (locs : List Loc) (ls : Array Slot), va_P D vwCl [(wh, .inr (7, [.ref ct, .ref vw, .ref pr, .ref wD_, .ref wL, .ref wQ, .ref wE, .int wt, .int tl, .int bd, .int st])), (wD_, .inl (cI, 7, .inl du)), (wL, .inl (cI, 480, .inl lf)), (wQ, .inl (cI, 480, .inl qu)), (wE, .inl (cI, 480, .inl qd)), (vw, .inr (6, [.ref vN, .ref vS, .ref vM, .ref vF])), (vN, .inl (cI, 640, .inl vn)), (vM, .inl (cI, 640, .inl vm)), (vF, .inl (cI, 640, .inl vf))] H → va_D A [(wh, .inr (7, [.ref ct, .ref vw, .ref pr, .ref wD_, .ref wL, .ref wQ, .ref wE, .int wt, .int tl, .int bd, .int st])), (wD_, .inl (cI, 7, .inl du)), (wL, .inl (cI, 480, .inl lf)), (wQ, .inl (cI, 480, .inl qu)), (wE, .inl (cI, 480, .inl qd)), (vw, .inr (6, [.ref vN, .ref vS, .ref vM, .ref vF])), (vN, .inl (cI, 640, .inl vn)), (vM, .inl (cI, 640, .inl vm)), (vF, .inl (cI, 640, .inl vf))] → va_S A s.heap H locs → lv_has ls 6 [(4, .int i), (3, .int ce), (2, .int la), (0, .ref wh), (1, .int k)] → W p l e (rmW 1 40 0 0) s m ([.ref wh, .int k] : List Value).toArray below meth c H locs 0 0 (MQ below (va_Qv (fun w => (∃ (wt2 : Int32), ∃ (tl2 : Int32), ∃ (lf2 : Nat → Int32), ∃ (qu2 : Nat → Int32), ∃ (qd2 : Nat → Int32), (rng qu2 480 (0) (479)) ∧ (0 ≤ tl2.toInt ∧ tl2.toInt < 480) ∧ w = [(wh, .inr (7, [.ref ct, .ref vw, .ref pr, .ref wD_, .ref wL, .ref wQ, .ref wE, .int wt2, .int tl2, .int bd, .int st])), (wD_, .inl (cI, 7, .inl du)), (wL, .inl (cI, 480, .inl lf2)), (wQ, .inl (cI, 480, .inl qu2)), (wE, .inl (cI, 480, .inl qd2)), (vw, .inr (6, [.ref vN, .ref vS, .ref vM, .ref vF])), (vN, .inl (cI, 640, .inl vn)), (vM, .inl (cI, 640, .inl vm)), (vF, .inl (cI, 640, .inl vf))])) (wD D A) A) ([.ref wh, .int k] : List Value).toArray s 0 0 A) (F0 m 113 ls [])) : ∀ (mN : Nat) (i : Int32) (wt : Int32) (tl : Int32) (lf : Nat → Int32) (qu : Nat → Int32) (qd : Nat → Int32), (rng qu 480 (0) (479)) → (rng vn 640 (-1) (79)) → (rng vm 640 (0) (2)) → (rng vf 640 (0) (6)) → (0 ≤ i.toInt ∧ i.toInt ≤ 8) → (0 ≤ tl.toInt ∧ tl.toInt < 480) → ((8 - i.toInt).toNat < mN) → ∀ (H : Heap) (locs : List Loc) (ls : Array Slot), va_P D vwCl [(wh, .inr (7, [.ref ct, .ref vw, .ref pr, .ref wD_, .ref wL, .ref wQ, .ref wE, .int wt, .int tl, .int bd, .int st])), (wD_, .inl (cI, 7, .inl du)), (wL, .inl (cI, 480, .inl lf)), (wQ, .inl (cI, 480, .inl qu)), (wE, .inl (cI, 480, .inl qd)), (vw, .inr (6, [.ref vN, .ref vS, .ref vM, .ref vF])), (vN, .inl (cI, 640, .inl vn)), (vM, .inl (cI, 640, .inl vm)), (vF, .inl (cI, 640, .inl vf))] H → va_D A [(wh, .inr (7, [.ref ct, .ref vw, .ref pr, .ref wD_, .ref wL, .ref wQ, .ref wE, .int wt, .int tl, .int bd, .int st])), (wD_, .inl (cI, 7, .inl du)), (wL, .inl (cI, 480, .inl lf)), (wQ, .inl (cI, 480, .inl qu)), (wE, .inl (cI, 480, .inl qd)), (vw, .inr (6, [.ref vN, .ref vS, .ref vM, .ref vF])), (vN, .inl (cI, 640, .inl vn)), (vM, .inl (cI, 640, .inl vm)), (vF, .inl (cI, 640, .inl vf))] → va_S A s.heap H locs → lv_has ls 6 [(4, .int i), (3, .int ce), (2, .int la), (0, .ref wh), (1, .int k)] → W p l e (rmW 1 40 0 0) s m ([.ref wh, .int k] : List Value).toArray below meth c H locs 0 0 (MQ below (va_Qv (fun w => (∃ (wt2 : Int32), ∃ (tl2 : Int32), ∃ (lf2 : Nat → Int32), ∃ (qu2 : Nat → Int32), ∃ (qd2 : Nat → Int32), (rng qu2 480 (0) (479)) ∧ (0 ≤ tl2.toInt ∧ tl2.toInt < 480) ∧ w = [(wh, .inr (7, [.ref ct, .ref vw, .ref pr, .ref wD_, .ref wL, .ref wQ, .ref wE, .int wt2, .int tl2, .int bd, .int st])), (wD_, .inl (cI, 7, .inl du)), (wL, .inl (cI, 480, .inl lf2)), (wQ, .inl (cI, 480, .inl qu2)), (wE, .inl (cI, 480, .inl qd2)), (vw, .inr (6, [.ref vN, .ref vS, .ref vM, .ref vF])), (vN, .inl (cI, 640, .inl vn)), (vM, .inl (cI, 640, .inl vm)), (vF, .inl (cI, 640, .inl vf))])) (wD D A) A) ([.ref wh, .int k] : List Value).toArray s 0 0 A) (F0 m 13 ls []) := by
  have S : CallFix p m c cX7_spread 6 s ([.ref wh, .int k] : List Value).toArray wsX7_spread RX7 := X.1
  have iX6 := jX7_spread_X6
  have iX7 := jX7_spread_X7
  intro mN
  induction mN with
  | zero => intro i wt tl lf qu qd hrg_qu hrg_vn hrg_vm hrg_vf hi ht hm; exact absurd hm (Nat.not_lt_zero _)
  | succ mN ih =>
    intro i wt tl lf qu qd hrg_qu hrg_vn hrg_vm hrg_vf hi ht hm H locs ls hP hD hS hl
    refine lv_iload S.1 S.2.1 dX7_spread_13 (lv_at hl 0 rfl) ?_
    refine lv_bipush (v := (8)) S.1 S.2.1 dX7_spread_15 (by decide) ?_
    refine lv_icmp_ge (tgt := 113) S.1 S.2.1 dX7_spread_17 (by decide) (fun c_101 => ?_) (fun c_101 => ?_)
    · rw [le2 (a := 8) (b := i) (A := 8) (B := i.toInt) rfl rfl] at c_101
      exact K i wt tl lf qu qd (by first | with_reducible assumption | assumption | omega | decide | (rw [show Int32.toInt 0 = 0 from rfl]; omega)) (by first | with_reducible assumption | assumption | omega | decide | (rw [show Int32.toInt 0 = 0 from rfl]; omega)) (by first | with_reducible assumption | assumption | omega | decide | (rw [show Int32.toInt 0 = 0 from rfl]; omega)) (by first | with_reducible assumption | assumption | omega | decide | (rw [show Int32.toInt 0 = 0 from rfl]; omega)) (by first | with_reducible assumption | decide | (and_intros <;> first | with_reducible assumption | (intros; refine Int.le_antisymm ?_ ?_ <;> omega) | omega) | assumption | (rw [show Int32.toInt 0 = 0 from rfl]; omega)) (by first | with_reducible assumption | decide | (and_intros <;> first | with_reducible assumption | (intros; refine Int.le_antisymm ?_ ?_ <;> omega) | omega) | assumption | (rw [show Int32.toInt 0 = 0 from rfl]; omega)) H _ ls hP hD hS (lv_sub hl [0, 1, 2, 3, 4] rfl)
    · rw [le2 (a := 8) (b := i) (A := 8) (B := i.toInt) rfl rfl] at c_101
      refine lv_aload_n S.1 S.2.1 dX7_spread_20 rfl (lv_at hl 3 rfl) ?_
      refine b_get (v := .ref vw) S iX7 hK hP 0 rfl rfl 1 (by decide) (by decide +kernel) rfl dX7_spread_21 ?_
      refine b_get (v := .ref vN) S iX6 hK hP 5 rfl rfl 0 (by decide) (by decide +kernel) rfl dX7_spread_24 ?_
      refine lv_iload_n S.1 S.2.1 dX7_spread_27 rfl (lv_at hl 1 rfl) ?_
      refine lv_bipush (v := (8)) S.1 S.2.1 dX7_spread_28 (by decide) ?_
      refine lv_imul S.1 S.2.1 dX7_spread_30 ?_
      refine lv_topi (fun x_102 ex_102 => ?_)
      have tx_102 : x_102.toInt = ce.toInt * 8 := mulI (A := ce.toInt) (B := 8) ex_102 rfl rfl (by  omega) (by  omega)
      refine lv_iload S.1 S.2.1 dX7_spread_31 (lv_at hl 0 rfl) ?_
      refine lv_iconst (v := (4)) S.1 S.2.1 dX7_spread_33 (by decide) ?_
      refine lv_ixor S.1 S.2.1 dX7_spread_34 ?_
      refine lv_topi (fun x_103 ex_103 => ?_)
      have tx_103 := xor4 ex_103 (by first | (and_intros <;> first | with_reducible assumption | (refine Int.le_antisymm ?_ ?_ <;> omega) | omega) | omega)
      refine lv_iadd S.1 S.2.1 dX7_spread_35 ?_
      refine lv_topi (fun x_104 ex_104 => ?_)
      have tx_104 : x_104.toInt = x_102.toInt + (x_103.toInt) := addI (A := x_102.toInt) (B := x_103.toInt) ex_104 rfl rfl (by  omega) (by  omega)
      have hin_105 : vp_in x_104 640 := (in_of (n := 640) (by  omega) (by  omega))
      refine va_iald S.1 S.2.1 hK.1 hP 6 0 rfl rfl hin_105 dX7_spread_36 ?_
      refine lv_topi (fun x_106 ex_106 => ?_)
      have tx_106 := rng_get (x := x_106) (show rng vn 640 (-1) (79) by assumption) hin_105 ex_106
      refine lv_istore (lv' := [(5, .int x_106), (4, .int i), (3, .int ce), (2, .int la), (0, .ref wh), (1, .int k)]) S.1 S.2.1 dX7_spread_37 hl (by decide) rfl (fun ls hl => ?_)
      refine lv_iload S.1 S.2.1 dX7_spread_39 (lv_at hl 0 rfl) ?_
      refine lv_iconst (v := (-1)) S.1 S.2.1 dX7_spread_41 (by decide) ?_
      refine lv_icmp_ne (tgt := 48) S.1 S.2.1 dX7_spread_42 (by decide) (fun c_107 => ?_) (fun c_107 => ?_)
      · rw [eq2 (a := x_106) (b := (-1)) (A := x_106.toInt) (B := -1) rfl rfl] at c_107
        refine lv_aload_n S.1 S.2.1 dX7_spread_48 rfl (lv_at hl 4 rfl) ?_
        refine lv_iload_n S.1 S.2.1 dX7_spread_49 rfl (lv_at hl 3 rfl) ?_
        refine lv_bipush (v := (80)) S.1 S.2.1 dX7_spread_50 (by decide) ?_
        refine lv_imul S.1 S.2.1 dX7_spread_52 ?_
        refine lv_topi (fun x_108 ex_108 => ?_)
        have tx_108 : x_108.toInt = la.toInt * 80 := mulI (A := la.toInt) (B := 80) ex_108 rfl rfl (by  omega) (by  omega)
        refine lv_iload S.1 S.2.1 dX7_spread_53 (lv_at hl 0 rfl) ?_
        refine lv_iadd S.1 S.2.1 dX7_spread_55 ?_
        refine lv_topi (fun x_109 ex_109 => ?_)
        have tx_109 : x_109.toInt = x_108.toInt + (x_106.toInt) := addI (A := x_108.toInt) (B := x_106.toInt) ex_109 rfl rfl (by  omega) (by  omega)
        refine lv_aload_n S.1 S.2.1 dX7_spread_56 rfl (lv_at hl 4 rfl) ?_
        refine b_get (v := .ref wL) S iX7 hK hP 0 rfl rfl 4 (by decide) (by decide +kernel) rfl dX7_spread_57 ?_
        refine lv_iload_n S.1 S.2.1 dX7_spread_60 rfl (lv_at hl 5 rfl) ?_
        have hin_110 : vp_in k 480 := (in_of (n := 480) (by  omega) (by  omega))
        refine va_iald S.1 S.2.1 hK.1 hP 2 0 rfl rfl hin_110 dX7_spread_61 ?_
        refine lv_topi (fun x_111 ex_111 => ?_)
        refine lv_aload_n S.1 S.2.1 dX7_spread_62 rfl (lv_at hl 4 rfl) ?_
        refine lv_iload S.1 S.2.1 dX7_spread_63 (lv_at hl 0 rfl) ?_
        refine lv_bipush (v := (8)) S.1 S.2.1 dX7_spread_65 (by decide) ?_
        refine lv_imul S.1 S.2.1 dX7_spread_67 ?_
        refine lv_topi (fun x_112 ex_112 => ?_)
        have tx_112 : x_112.toInt = x_106.toInt * 8 := mulI (A := x_106.toInt) (B := 8) ex_112 rfl rfl (by  omega) (by  omega)
        refine lv_iload S.1 S.2.1 dX7_spread_68 (lv_at hl 1 rfl) ?_
        refine lv_iadd S.1 S.2.1 dX7_spread_70 ?_
        refine lv_topi (fun x_113 ex_113 => ?_)
        have tx_113 : x_113.toInt = x_112.toInt + (i.toInt) := addI (A := x_112.toInt) (B := i.toInt) ex_113 rfl rfl (by  omega) (by  omega)
        refine b_ai (wr := [(wL, .inl (cI, 480, .inl lf)), (wQ, .inl (cI, 480, .inl qu)), (wE, .inl (cI, 480, .inl qd)), (vN, .inl (cI, 640, .inl vn))]) (b_runV (q0 := 0) (ci := 7) (As := [.int x_113]) (s_X7_weight l D cI cZ cC cS sq H.size wh wD_ vw vM vF x_113 ct pr wL wQ wE wt tl bd st du vN vS vm vf (by first | with_reducible assumption | assumption | omega | decide | (rw [show Int32.toInt 0 = 0 from rfl]; omega)) (by first | with_reducible assumption | assumption | omega | decide | (rw [show Int32.toInt 0 = 0 from rfl]; omega)) (by first | with_reducible assumption | decide | (and_intros <;> first | with_reducible assumption | (intros; refine Int.le_antisymm ?_ ?_ <;> omega) | omega) | assumption | (rw [show Int32.toInt 0 = 0 from rfl]; omega))) S gX7_spread_X7_weight rfl hdV_X7_weight ⟨Nat.le_of_ble_eq_true rfl, Nat.le_of_ble_eq_true rfl⟩ ⟨Nat.le_of_ble_eq_true rfl, Nat.le_of_ble_eq_true rfl⟩ hK hT hS hA hP hD rfl rfl [0, 1, 5, 7, 8] rfl (by decide) rfl hl.1 rfl (Nat.le_of_ble_eq_true rfl) dX7_spread_71) hP hD hS hA [0, 1, 5, 7, 8] [2, 3, 4, 6] rfl rfl (by decide) (by decide) (fun r_114 w_115 H locs hw_116 hP hD hS => ?_)
        obtain rfl := hw_116
        have hP : va_P D vwCl [(wL, .inl (cI, 480, .inl lf)), (wQ, .inl (cI, 480, .inl qu)), (wE, .inl (cI, 480, .inl qd)), (vN, .inl (cI, 640, .inl vn)), (wh, .inr (7, [.ref ct, .ref vw, .ref pr, .ref wD_, .ref wL, .ref wQ, .ref wE, .int wt, .int tl, .int bd, .int st])), (wD_, .inl (cI, 7, .inl du)), (vw, .inr (6, [.ref vN, .ref vS, .ref vM, .ref vF])), (vM, .inl (cI, 640, .inl vm)), (vF, .inl (cI, 640, .inl vf))] H := hP
        have hD : va_D A [(wL, .inl (cI, 480, .inl lf)), (wQ, .inl (cI, 480, .inl qu)), (wE, .inl (cI, 480, .inl qd)), (vN, .inl (cI, 640, .inl vn)), (wh, .inr (7, [.ref ct, .ref vw, .ref pr, .ref wD_, .ref wL, .ref wQ, .ref wE, .int wt, .int tl, .int bd, .int st])), (wD_, .inl (cI, 7, .inl du)), (vw, .inr (6, [.ref vN, .ref vS, .ref vM, .ref vF])), (vM, .inl (cI, 640, .inl vm)), (vF, .inl (cI, 640, .inl vf))] := hD
        refine lv_iadd S.1 S.2.1 dX7_spread_74 ?_
        refine lv_topi (fun x_117 ex_117 => ?_)
        refine b_av (wr := [(vN, .inl (cI, 640, .inl vn)), (wD_, .inl (cI, 7, .inl du)), (vw, .inr (6, [.ref vN, .ref vS, .ref vM, .ref vF])), (vM, .inl (cI, 640, .inl vm)), (vF, .inl (cI, 640, .inl vf))]) (b_runV (q0 := 4) (ci := 7) (As := [.int x_109, .int x_117]) (s_X7_offer l D cI cZ cC cS sq H.size wh wL wQ wE x_109 x_117 ct vw pr wD_ wt tl bd st lf qu qd (by first | with_reducible assumption | assumption | omega | decide | (rw [show Int32.toInt 0 = 0 from rfl]; omega)) (by first | with_reducible assumption | decide | (and_intros <;> first | with_reducible assumption | (intros; refine Int.le_antisymm ?_ ?_ <;> omega) | omega) | assumption | (rw [show Int32.toInt 0 = 0 from rfl]; omega)) (by first | with_reducible assumption | decide | (and_intros <;> first | with_reducible assumption | (intros; refine Int.le_antisymm ?_ ?_ <;> omega) | omega) | assumption | (rw [show Int32.toInt 0 = 0 from rfl]; omega)) (by first | with_reducible assumption | decide | (and_intros <;> first | with_reducible assumption | (intros; refine Int.le_antisymm ?_ ?_ <;> omega) | omega) | assumption | (rw [show Int32.toInt 0 = 0 from rfl]; omega))) S gX7_spread_X7_offer rfl hdV_X7_offer ⟨Nat.le_of_ble_eq_true rfl, Nat.le_of_ble_eq_true rfl⟩ ⟨Nat.le_of_ble_eq_true rfl, Nat.le_of_ble_eq_true rfl⟩ hK hT hS hA hP hD rfl rfl [4, 0, 1, 2] rfl (by decide) rfl hl.1 rfl (Nat.le_of_ble_eq_true rfl) dX7_spread_75) hP hD hS hA [4, 0, 1, 2] [3, 5, 6, 7, 8] rfl rfl (by decide) (by decide) (fun w_119 H locs hw_120 hP hD hS => ?_)
        obtain ⟨wt2_121, tl2_122, lf2_123, qu2_124, qd2_125, hf_126, hf_127, rfl⟩ := hw_120
        have hP : va_P D vwCl [(vN, .inl (cI, 640, .inl vn)), (wD_, .inl (cI, 7, .inl du)), (vw, .inr (6, [.ref vN, .ref vS, .ref vM, .ref vF])), (vM, .inl (cI, 640, .inl vm)), (vF, .inl (cI, 640, .inl vf)), (wh, .inr (7, [.ref ct, .ref vw, .ref pr, .ref wD_, .ref wL, .ref wQ, .ref wE, .int wt2_121, .int tl2_122, .int bd, .int st])), (wL, .inl (cI, 480, .inl lf2_123)), (wQ, .inl (cI, 480, .inl qu2_124)), (wE, .inl (cI, 480, .inl qd2_125))] H := hP
        have hD : va_D A [(vN, .inl (cI, 640, .inl vn)), (wD_, .inl (cI, 7, .inl du)), (vw, .inr (6, [.ref vN, .ref vS, .ref vM, .ref vF])), (vM, .inl (cI, 640, .inl vm)), (vF, .inl (cI, 640, .inl vf)), (wh, .inr (7, [.ref ct, .ref vw, .ref pr, .ref wD_, .ref wL, .ref wQ, .ref wE, .int wt2_121, .int tl2_122, .int bd, .int st])), (wL, .inl (cI, 480, .inl lf2_123)), (wQ, .inl (cI, 480, .inl qu2_124)), (wE, .inl (cI, 480, .inl qd2_125))] := hD
        refine lv_iload_n S.1 S.2.1 dX7_spread_78 rfl (lv_at hl 3 rfl) ?_
        refine lv_aload_n S.1 S.2.1 dX7_spread_79 rfl (lv_at hl 4 rfl) ?_
        refine b_get (v := .int bd) S iX7 hK hP 5 rfl rfl 9 (by decide) (by decide +kernel) rfl dX7_spread_80 ?_
        refine lv_icmp_ge (tgt := 107) S.1 S.2.1 dX7_spread_83 (by decide) (fun c_128 => ?_) (fun c_128 => ?_)
        · rw [le2 (a := bd) (b := la) (A := bd.toInt) (B := la.toInt) rfl rfl] at c_128
          obtain ⟨x_129, ex_129⟩ : ∃ y : Int32, y = i + Int32.ofInt (1) := ⟨_, rfl⟩
          refine lv_iinc (v := x_129) (lv' := [(4, .int x_129), (5, .int x_106), (3, .int ce), (2, .int la), (0, .ref wh), (1, .int k)]) S.1 S.2.1 dX7_spread_107 hl (k := 1) rfl ex_129.symm (by decide) rfl (fun ls hl => ?_)
          have tx_129 : x_129.toInt = i.toInt + (1) := addI (A := i.toInt) (B := 1) ex_129 rfl rfl (by  omega) (by  omega)
          refine lv_goto (tgt := 13) S.1 S.2.1 dX7_spread_110 (by decide) ?_
          have hP := hP.sub (ws' := [(wh, .inr (7, [.ref ct, .ref vw, .ref pr, .ref wD_, .ref wL, .ref wQ, .ref wE, .int wt2_121, .int tl2_122, .int bd, .int st])), (wD_, .inl (cI, 7, .inl du)), (wL, .inl (cI, 480, .inl lf2_123)), (wQ, .inl (cI, 480, .inl qu2_124)), (wE, .inl (cI, 480, .inl qd2_125)), (vw, .inr (6, [.ref vN, .ref vS, .ref vM, .ref vF])), (vN, .inl (cI, 640, .inl vn)), (vM, .inl (cI, 640, .inl vm)), (vF, .inl (cI, 640, .inl vf))]) [5, 1, 6, 7, 8, 2, 0, 3, 4] rfl
          have hD := hD.sub (ws' := [(wh, .inr (7, [.ref ct, .ref vw, .ref pr, .ref wD_, .ref wL, .ref wQ, .ref wE, .int wt2_121, .int tl2_122, .int bd, .int st])), (wD_, .inl (cI, 7, .inl du)), (wL, .inl (cI, 480, .inl lf2_123)), (wQ, .inl (cI, 480, .inl qu2_124)), (wE, .inl (cI, 480, .inl qd2_125)), (vw, .inr (6, [.ref vN, .ref vS, .ref vM, .ref vF])), (vN, .inl (cI, 640, .inl vn)), (vM, .inl (cI, 640, .inl vm)), (vF, .inl (cI, 640, .inl vf))]) [5, 1, 6, 7, 8, 2, 0, 3, 4] (by decide) rfl
          exact ih x_129 wt2_121 tl2_122 lf2_123 qu2_124 qd2_125 (by first | with_reducible assumption | assumption | omega | decide | (rw [show Int32.toInt 0 = 0 from rfl]; omega)) (by first | with_reducible assumption | assumption | omega | decide | (rw [show Int32.toInt 0 = 0 from rfl]; omega)) (by first | with_reducible assumption | assumption | omega | decide | (rw [show Int32.toInt 0 = 0 from rfl]; omega)) (by first | with_reducible assumption | assumption | omega | decide | (rw [show Int32.toInt 0 = 0 from rfl]; omega)) (by first | with_reducible assumption | decide | (and_intros <;> first | with_reducible assumption | (intros; refine Int.le_antisymm ?_ ?_ <;> omega) | omega) | assumption | (rw [show Int32.toInt 0 = 0 from rfl]; omega)) (by first | with_reducible assumption | decide | (and_intros <;> first | with_reducible assumption | (intros; refine Int.le_antisymm ?_ ?_ <;> omega) | omega) | assumption | (rw [show Int32.toInt 0 = 0 from rfl]; omega)) (by first | (and_intros <;> first | with_reducible assumption | (refine Int.le_antisymm ?_ ?_ <;> omega) | omega) | omega) H _ ls hP hD hS (lv_sub hl [0, 2, 3, 4, 5] rfl)
        · rw [le2 (a := bd) (b := la) (A := bd.toInt) (B := la.toInt) rfl rfl] at c_128
          refine lv_aload_n S.1 S.2.1 dX7_spread_86 rfl (lv_at hl 4 rfl) ?_
          refine lv_iload_n S.1 S.2.1 dX7_spread_87 rfl (lv_at hl 3 rfl) ?_
          refine lv_iconst (v := (1)) S.1 S.2.1 dX7_spread_88 (by decide) ?_
          refine lv_iadd S.1 S.2.1 dX7_spread_89 ?_
          refine lv_topi (fun x_130 ex_130 => ?_)
          have tx_130 : x_130.toInt = la.toInt + (1) := addI (A := la.toInt) (B := 1) ex_130 rfl rfl (by  omega) (by  omega)
          refine lv_bipush (v := (80)) S.1 S.2.1 dX7_spread_90 (by decide) ?_
          refine lv_imul S.1 S.2.1 dX7_spread_92 ?_
          refine lv_topi (fun x_131 ex_131 => ?_)
          have tx_131 : x_131.toInt = x_130.toInt * 80 := mulI (A := x_130.toInt) (B := 80) ex_131 rfl rfl (by  omega) (by  omega)
          refine lv_iload S.1 S.2.1 dX7_spread_93 (lv_at hl 0 rfl) ?_
          refine lv_iadd S.1 S.2.1 dX7_spread_95 ?_
          refine lv_topi (fun x_132 ex_132 => ?_)
          have tx_132 : x_132.toInt = x_131.toInt + (x_106.toInt) := addI (A := x_131.toInt) (B := x_106.toInt) ex_132 rfl rfl (by  omega) (by  omega)
          refine lv_aload_n S.1 S.2.1 dX7_spread_96 rfl (lv_at hl 4 rfl) ?_
          refine b_get (v := .ref wL) S iX7 hK hP 5 rfl rfl 4 (by decide) (by decide +kernel) rfl dX7_spread_97 ?_
          refine lv_iload_n S.1 S.2.1 dX7_spread_100 rfl (lv_at hl 5 rfl) ?_
          have hin_133 : vp_in k 480 := (in_of (n := 480) (by  omega) (by  omega))
          refine va_iald S.1 S.2.1 hK.1 hP 6 0 rfl rfl hin_133 dX7_spread_101 ?_
          refine lv_topi (fun x_134 ex_134 => ?_)
          refine lv_iconst (v := (1)) S.1 S.2.1 dX7_spread_102 (by decide) ?_
          refine lv_iadd S.1 S.2.1 dX7_spread_103 ?_
          refine lv_topi (fun x_135 ex_135 => ?_)
          refine b_av (wr := [(vN, .inl (cI, 640, .inl vn)), (wD_, .inl (cI, 7, .inl du)), (vw, .inr (6, [.ref vN, .ref vS, .ref vM, .ref vF])), (vM, .inl (cI, 640, .inl vm)), (vF, .inl (cI, 640, .inl vf))]) (b_runV (q0 := 5) (ci := 7) (As := [.int x_132, .int x_135]) (s_X7_offer l D cI cZ cC cS sq H.size wh wL wQ wE x_132 x_135 ct vw pr wD_ wt2_121 tl2_122 bd st lf2_123 qu2_124 qd2_125 (by first | with_reducible assumption | assumption | omega | decide | (rw [show Int32.toInt 0 = 0 from rfl]; omega)) (by first | with_reducible assumption | decide | (and_intros <;> first | with_reducible assumption | (intros; refine Int.le_antisymm ?_ ?_ <;> omega) | omega) | assumption | (rw [show Int32.toInt 0 = 0 from rfl]; omega)) (by first | with_reducible assumption | decide | (and_intros <;> first | with_reducible assumption | (intros; refine Int.le_antisymm ?_ ?_ <;> omega) | omega) | assumption | (rw [show Int32.toInt 0 = 0 from rfl]; omega)) (by first | with_reducible assumption | decide | (and_intros <;> first | with_reducible assumption | (intros; refine Int.le_antisymm ?_ ?_ <;> omega) | omega) | assumption | (rw [show Int32.toInt 0 = 0 from rfl]; omega))) S gX7_spread_X7_offer rfl hdV_X7_offer ⟨Nat.le_of_ble_eq_true rfl, Nat.le_of_ble_eq_true rfl⟩ ⟨Nat.le_of_ble_eq_true rfl, Nat.le_of_ble_eq_true rfl⟩ hK hT hS hA hP hD rfl rfl [5, 6, 7, 8] rfl (by decide) rfl hl.1 rfl (Nat.le_of_ble_eq_true rfl) dX7_spread_104) hP hD hS hA [5, 6, 7, 8] [0, 1, 2, 3, 4] rfl rfl (by decide) (by decide) (fun w_137 H locs hw_138 hP hD hS => ?_)
          obtain ⟨wt2_139, tl2_140, lf2_141, qu2_142, qd2_143, hf_144, hf_145, rfl⟩ := hw_138
          have hP : va_P D vwCl [(vN, .inl (cI, 640, .inl vn)), (wD_, .inl (cI, 7, .inl du)), (vw, .inr (6, [.ref vN, .ref vS, .ref vM, .ref vF])), (vM, .inl (cI, 640, .inl vm)), (vF, .inl (cI, 640, .inl vf)), (wh, .inr (7, [.ref ct, .ref vw, .ref pr, .ref wD_, .ref wL, .ref wQ, .ref wE, .int wt2_139, .int tl2_140, .int bd, .int st])), (wL, .inl (cI, 480, .inl lf2_141)), (wQ, .inl (cI, 480, .inl qu2_142)), (wE, .inl (cI, 480, .inl qd2_143))] H := hP
          have hD : va_D A [(vN, .inl (cI, 640, .inl vn)), (wD_, .inl (cI, 7, .inl du)), (vw, .inr (6, [.ref vN, .ref vS, .ref vM, .ref vF])), (vM, .inl (cI, 640, .inl vm)), (vF, .inl (cI, 640, .inl vf)), (wh, .inr (7, [.ref ct, .ref vw, .ref pr, .ref wD_, .ref wL, .ref wQ, .ref wE, .int wt2_139, .int tl2_140, .int bd, .int st])), (wL, .inl (cI, 480, .inl lf2_141)), (wQ, .inl (cI, 480, .inl qu2_142)), (wE, .inl (cI, 480, .inl qd2_143))] := hD
          obtain ⟨x_146, ex_146⟩ : ∃ y : Int32, y = i + Int32.ofInt (1) := ⟨_, rfl⟩
          refine lv_iinc (v := x_146) (lv' := [(4, .int x_146), (5, .int x_106), (3, .int ce), (2, .int la), (0, .ref wh), (1, .int k)]) S.1 S.2.1 dX7_spread_107 hl (k := 1) rfl ex_146.symm (by decide) rfl (fun ls hl => ?_)
          have tx_146 : x_146.toInt = i.toInt + (1) := addI (A := i.toInt) (B := 1) ex_146 rfl rfl (by  omega) (by  omega)
          refine lv_goto (tgt := 13) S.1 S.2.1 dX7_spread_110 (by decide) ?_
          have hP := hP.sub (ws' := [(wh, .inr (7, [.ref ct, .ref vw, .ref pr, .ref wD_, .ref wL, .ref wQ, .ref wE, .int wt2_139, .int tl2_140, .int bd, .int st])), (wD_, .inl (cI, 7, .inl du)), (wL, .inl (cI, 480, .inl lf2_141)), (wQ, .inl (cI, 480, .inl qu2_142)), (wE, .inl (cI, 480, .inl qd2_143)), (vw, .inr (6, [.ref vN, .ref vS, .ref vM, .ref vF])), (vN, .inl (cI, 640, .inl vn)), (vM, .inl (cI, 640, .inl vm)), (vF, .inl (cI, 640, .inl vf))]) [5, 1, 6, 7, 8, 2, 0, 3, 4] rfl
          have hD := hD.sub (ws' := [(wh, .inr (7, [.ref ct, .ref vw, .ref pr, .ref wD_, .ref wL, .ref wQ, .ref wE, .int wt2_139, .int tl2_140, .int bd, .int st])), (wD_, .inl (cI, 7, .inl du)), (wL, .inl (cI, 480, .inl lf2_141)), (wQ, .inl (cI, 480, .inl qu2_142)), (wE, .inl (cI, 480, .inl qd2_143)), (vw, .inr (6, [.ref vN, .ref vS, .ref vM, .ref vF])), (vN, .inl (cI, 640, .inl vn)), (vM, .inl (cI, 640, .inl vm)), (vF, .inl (cI, 640, .inl vf))]) [5, 1, 6, 7, 8, 2, 0, 3, 4] (by decide) rfl
          exact ih x_146 wt2_139 tl2_140 lf2_141 qu2_142 qd2_143 (by first | with_reducible assumption | assumption | omega | decide | (rw [show Int32.toInt 0 = 0 from rfl]; omega)) (by first | with_reducible assumption | assumption | omega | decide | (rw [show Int32.toInt 0 = 0 from rfl]; omega)) (by first | with_reducible assumption | assumption | omega | decide | (rw [show Int32.toInt 0 = 0 from rfl]; omega)) (by first | with_reducible assumption | assumption | omega | decide | (rw [show Int32.toInt 0 = 0 from rfl]; omega)) (by first | with_reducible assumption | decide | (and_intros <;> first | with_reducible assumption | (intros; refine Int.le_antisymm ?_ ?_ <;> omega) | omega) | assumption | (rw [show Int32.toInt 0 = 0 from rfl]; omega)) (by first | with_reducible assumption | decide | (and_intros <;> first | with_reducible assumption | (intros; refine Int.le_antisymm ?_ ?_ <;> omega) | omega) | assumption | (rw [show Int32.toInt 0 = 0 from rfl]; omega)) (by first | (and_intros <;> first | with_reducible assumption | (refine Int.le_antisymm ?_ ?_ <;> omega) | omega) | omega) H _ ls hP hD hS (lv_sub hl [0, 2, 3, 4, 5] rfl)
      · rw [eq2 (a := x_106) (b := (-1)) (A := x_106.toInt) (B := -1) rfl rfl] at c_107
        refine lv_goto (tgt := 107) S.1 S.2.1 dX7_spread_45 (by decide) ?_
        obtain ⟨x_147, ex_147⟩ : ∃ y : Int32, y = i + Int32.ofInt (1) := ⟨_, rfl⟩
        refine lv_iinc (v := x_147) (lv' := [(4, .int x_147), (5, .int x_106), (3, .int ce), (2, .int la), (0, .ref wh), (1, .int k)]) S.1 S.2.1 dX7_spread_107 hl (k := 1) rfl ex_147.symm (by decide) rfl (fun ls hl => ?_)
        have tx_147 : x_147.toInt = i.toInt + (1) := addI (A := i.toInt) (B := 1) ex_147 rfl rfl (by  omega) (by  omega)
        refine lv_goto (tgt := 13) S.1 S.2.1 dX7_spread_110 (by decide) ?_
        exact ih x_147 wt tl lf qu qd (by first | with_reducible assumption | assumption | omega | decide | (rw [show Int32.toInt 0 = 0 from rfl]; omega)) (by first | with_reducible assumption | assumption | omega | decide | (rw [show Int32.toInt 0 = 0 from rfl]; omega)) (by first | with_reducible assumption | assumption | omega | decide | (rw [show Int32.toInt 0 = 0 from rfl]; omega)) (by first | with_reducible assumption | assumption | omega | decide | (rw [show Int32.toInt 0 = 0 from rfl]; omega)) (by first | with_reducible assumption | decide | (and_intros <;> first | with_reducible assumption | (intros; refine Int.le_antisymm ?_ ?_ <;> omega) | omega) | assumption | (rw [show Int32.toInt 0 = 0 from rfl]; omega)) (by first | with_reducible assumption | decide | (and_intros <;> first | with_reducible assumption | (intros; refine Int.le_antisymm ?_ ?_ <;> omega) | omega) | assumption | (rw [show Int32.toInt 0 = 0 from rfl]; omega)) (by first | (and_intros <;> first | with_reducible assumption | (refine Int.le_antisymm ?_ ?_ <;> omega) | omega) | omega) H _ ls hP hD hS (lv_sub hl [0, 2, 3, 4, 5] rfl)
set_option maxHeartbeats 4000000 in
set_option maxRecDepth 100000 in
theorem s_X7_spread (l : Launch) (D : va_G) (cI cZ cC cS : ClassId) (sq : Nat → Nat) (sz : Nat) (wh : Nat) (wD_ : Nat) (wL : Nat) (wQ : Nat) (wE : Nat) (vw : Nat) (vN : Nat) (vM : Nat) (vF : Nat) (k : Int32) (ct : Nat) (pr : Nat) (wt : Int32) (tl : Int32) (bd : Int32) (st : Int32) (du : Nat → Int32) (lf : Nat → Int32) (qu : Nat → Int32) (qd : Nat → Int32) (vS : Nat) (vn : Nat → Int32) (vm : Nat → Int32) (vf : Nat → Int32) (hrg_qu : rng qu 480 (0) (479)) (hrg_vn : rng vn 640 (-1) (79)) (hrg_vm : rng vm 640 (0) (2)) (hrg_vf : rng vf 640 (0) (6)) (hst : 0 ≤ k.toInt ∧ k.toInt < 480) (ht : 0 ≤ tl.toInt ∧ tl.toInt < 480) (hs : 0 ≤ st.toInt ∧ st.toInt < 480) (hb : 0 ≤ bd.toInt ∧ bd.toInt ≤ 5) : mV l yX7_spread wsX7_spread 1 40 0 0 D (tyW cI cZ cC cS) sq [(wh, .inr (7, [.ref ct, .ref vw, .ref pr, .ref wD_, .ref wL, .ref wQ, .ref wE, .int wt, .int tl, .int bd, .int st])), (wD_, .inl (cI, 7, .inl du)), (wL, .inl (cI, 480, .inl lf)), (wQ, .inl (cI, 480, .inl qu)), (wE, .inl (cI, 480, .inl qd)), (vw, .inr (6, [.ref vN, .ref vS, .ref vM, .ref vF])), (vN, .inl (cI, 640, .inl vn)), (vM, .inl (cI, 640, .inl vm)), (vF, .inl (cI, 640, .inl vf))] sz [.ref wh, .int k] (fun w => (∃ (wt2 : Int32), ∃ (tl2 : Int32), ∃ (lf2 : Nat → Int32), ∃ (qu2 : Nat → Int32), ∃ (qd2 : Nat → Int32), (rng qu2 480 (0) (479)) ∧ (0 ≤ tl2.toInt ∧ tl2.toInt < 480) ∧ w = [(wh, .inr (7, [.ref ct, .ref vw, .ref pr, .ref wD_, .ref wL, .ref wQ, .ref wE, .int wt2, .int tl2, .int bd, .int st])), (wD_, .inl (cI, 7, .inl du)), (wL, .inl (cI, 480, .inl lf2)), (wQ, .inl (cI, 480, .inl qu2)), (wE, .inl (cI, 480, .inl qd2)), (vw, .inr (6, [.ref vN, .ref vS, .ref vM, .ref vF])), (vN, .inl (cI, 640, .inl vn)), (vM, .inl (cI, 640, .inl vm)), (vF, .inl (cI, 640, .inl vf))])) := by
  refine b_metV (cc := cX7_spread) (maxL := 6) (ret := none) (by decide) rfl (Nat.le_of_ble_eq_true rfl) ?_
  intro p e s m below meth c ls A H X hsz hP hK hT hD hA hS hl
  have S : CallFix p m c cX7_spread 6 s ([.ref wh, .int k] : List Value).toArray wsX7_spread RX7 := X.1
  have hl : lv_has ls 6 [(0, .ref wh), (1, .int k)] := hl
  refine lv_iload_n S.1 S.2.1 dX7_spread_0 rfl (lv_at hl 1 rfl) ?_
  refine lv_bipush (v := (80)) S.1 S.2.1 dX7_spread_1 (by decide) ?_
  refine lv_idiv S.1 S.2.1 dX7_spread_3 (by decide) ?_
  refine lv_topi (fun x_1 ex_1 => ?_)
  have tx_1 : x_1.toInt = k.toInt / 80 := divI (A := k.toInt) (B := 80) ex_1 rfl rfl (by  omega) (by decide)
  refine lv_istore_n (lv' := [(2, .int x_1), (0, .ref wh), (1, .int k)]) S.1 S.2.1 dX7_spread_4 rfl hl (by decide) rfl (fun ls hl => ?_)
  refine lv_iload_n S.1 S.2.1 dX7_spread_5 rfl (lv_at hl 2 rfl) ?_
  refine lv_bipush (v := (80)) S.1 S.2.1 dX7_spread_6 (by decide) ?_
  refine lv_irem S.1 S.2.1 dX7_spread_8 (by decide) ?_
  refine lv_topi (fun x_2 ex_2 => ?_)
  have tx_2 : x_2.toInt = k.toInt % 80 := remI (A := k.toInt) (B := 80) ex_2 rfl rfl (by  omega) (by decide)
  refine lv_istore_n (lv' := [(3, .int x_2), (2, .int x_1), (0, .ref wh), (1, .int k)]) S.1 S.2.1 dX7_spread_9 rfl hl (by decide) rfl (fun ls hl => ?_)
  refine lv_iconst (v := (0)) S.1 S.2.1 dX7_spread_10 (by decide) ?_
  refine lv_istore (lv' := [(4, .int 0), (3, .int x_2), (2, .int x_1), (0, .ref wh), (1, .int k)]) S.1 S.2.1 dX7_spread_11 hl (by decide) rfl (fun ls hl => ?_)
  refine lp_spread l D cI cZ cC cS sq wh wD_ wL wQ wE vw vN vM vF k ct pr wt tl bd st du lf qu qd vS vn vm vf hrg_qu hrg_vn hrg_vm hrg_vf hst ht hs hb x_2 x_1 (by first | with_reducible assumption | decide | (and_intros <;> first | with_reducible assumption | (intros; refine Int.le_antisymm ?_ ?_ <;> omega) | omega) | assumption | (rw [show Int32.toInt 0 = 0 from rfl]; omega)) (by first | with_reducible assumption | decide | (and_intros <;> first | with_reducible assumption | (intros; refine Int.le_antisymm ?_ ?_ <;> omega) | omega) | assumption | (rw [show Int32.toInt 0 = 0 from rfl]; omega)) X hK hT hA (fun i_3 wt_4 tl_5 lf_6 qu_7 qd_8 hi_9 hi_10 hi_11 hi_12 hi_13 hi_14 H locs ls hP hD hS hl => ?_) _ (0) wt tl lf qu qd (by first | with_reducible assumption | assumption | omega | decide | (rw [show Int32.toInt 0 = 0 from rfl]; omega)) (by first | with_reducible assumption | assumption | omega | decide | (rw [show Int32.toInt 0 = 0 from rfl]; omega)) (by first | with_reducible assumption | assumption | omega | decide | (rw [show Int32.toInt 0 = 0 from rfl]; omega)) (by first | with_reducible assumption | assumption | omega | decide | (rw [show Int32.toInt 0 = 0 from rfl]; omega)) (by first | with_reducible assumption | decide | (and_intros <;> first | with_reducible assumption | (intros; refine Int.le_antisymm ?_ ?_ <;> omega) | omega) | assumption | (rw [show Int32.toInt 0 = 0 from rfl]; omega)) (by first | with_reducible assumption | decide | (and_intros <;> first | with_reducible assumption | (intros; refine Int.le_antisymm ?_ ?_ <;> omega) | omega) | assumption | (rw [show Int32.toInt 0 = 0 from rfl]; omega)) (Nat.lt_succ_self _) H _ ls hP hD hS (lv_sub hl [0, 1, 2, 3, 4] rfl)
  exact b_vret S.1 S.2.1 X.2.1 X.2.2.1 hP hD hS ⟨wt_4, tl_5, lf_6, qu_7, qd_8, (by first | with_reducible assumption | assumption | omega | decide | (rw [show Int32.toInt 0 = 0 from rfl]; omega)), (by first | with_reducible assumption | decide | (and_intros <;> first | with_reducible assumption | (intros; refine Int.le_antisymm ?_ ?_ <;> omega) | omega) | assumption | (rw [show Int32.toInt 0 = 0 from rfl]; omega)), rfl⟩ dX7_spread_113
set_option maxHeartbeats 4000000 in
set_option maxRecDepth 100000 in
theorem lp_begin1 {p : Program} (l : Launch) {e : Env} {s : State} {m : MethodId} {below : List Frame} {meth : Method} {c : Code} (D : va_G) (cI cZ cC cS : ClassId) (sq : Nat → Nat) (wh : Nat) (wD_ : Nat) (wL : Nat) (wQ : Nat) (wE : Nat) (ct : Nat) (aPlaces : Nat) (aHomes : Nat) (aManners : Nat) (aFree : Nat) (pr : Nat) (a : Int32) (g : Int32) (vw : Nat) (wt : Int32) (tl : Int32) (bd : Int32) (st : Int32) (du : Nat → Int32) (lf : Nat → Int32) (qu : Nat → Int32) (qd : Nat → Int32) (cw : Int32) (ch : Int32) (cp : Int32) (aCells : Nat) (aPrices : Nat) (aGone : Nat) (aPaid : Nat) (aBlinks : Nat) (fl : Nat → Int32) (fh : Nat → Int32) (fm : Nat → Int32) (ff : Nat → Int32) (pf : Nat → Int32) (hrg_qu : rng qu 480 (0) (479)) (hrg_fl : rng fl 6 (0) (79)) (hrg_fh : rng fh 6 (0) (79)) (ha : 0 ≤ a.toInt ∧ a.toInt < 6) (hg : 0 ≤ g.toInt ∧ g.toInt ≤ 5) (st1 : Int32) {A : Nat → Prop} (X : bX p s m meth c cX7_begin 4 wsX7_begin yX7_begin none [.ref wh, .int a, .int g]) (hK : kW D (tyW cI cZ cC cS) sq s) (hT : sT sq A s s.heap) (hA : ∀ q, s.heap.size ≤ q → A q) (K : ∀ (i : Int32) (du : Nat → Int32), (rng qu 480 (0) (479)) → (rng fl 6 (0) (79)) → (rng fh 6 (0) (79)) → (0 ≤ i.toInt ∧ i.toInt ≤ 6) → ∀ (H : Heap) (locs : List Loc) (ls : Array Slot), va_P D vwCl [(wh, .inr (7, [.ref ct, .ref vw, .ref pr, .ref wD_, .ref wL, .ref wQ, .ref wE, .int wt, .int tl, .int g, .int st1])), (wD_, .inl (cI, 7, .inl du)), (wL, .inl (cI, 480, .inl lf)), (wQ, .inl (cI, 480, .inl qu)), (wE, .inl (cI, 480, .inl qd)), (ct, .inr (1, [.int cw, .int ch, .int cp, .ref aCells, .ref aPrices, .ref aFree, .ref aPlaces, .ref aHomes, .ref aManners, .ref aGone, .ref aPaid, .ref aBlinks])), (aPlaces, .inl (cI, 6, .inl fl)), (aHomes, .inl (cI, 6, .inl fh)), (aManners, .inl (cI, 6, .inl fm)), (aFree, .inl (cI, 6, .inl ff)), (pr, .inl (cI, 6, .inl pf))] H → va_D A [(wh, .inr (7, [.ref ct, .ref vw, .ref pr, .ref wD_, .ref wL, .ref wQ, .ref wE, .int wt, .int tl, .int g, .int st1])), (wD_, .inl (cI, 7, .inl du)), (wL, .inl (cI, 480, .inl lf)), (wQ, .inl (cI, 480, .inl qu)), (wE, .inl (cI, 480, .inl qd)), (ct, .inr (1, [.int cw, .int ch, .int cp, .ref aCells, .ref aPrices, .ref aFree, .ref aPlaces, .ref aHomes, .ref aManners, .ref aGone, .ref aPaid, .ref aBlinks])), (aPlaces, .inl (cI, 6, .inl fl)), (aHomes, .inl (cI, 6, .inl fh)), (aManners, .inl (cI, 6, .inl fm)), (aFree, .inl (cI, 6, .inl ff)), (pr, .inl (cI, 6, .inl pf))] → va_S A s.heap H locs → lv_has ls 4 [(3, .int i), (0, .ref wh), (1, .int a), (2, .int g)] → W p l e (rmW 1 40 0 0) s m ([.ref wh, .int a, .int g] : List Value).toArray below meth c H locs 0 0 (MQ below (va_Qv (fun w => (∃ (wt2 : Int32), ∃ (tl2 : Int32), ∃ (st2 : Int32), ∃ (du2 : Nat → Int32), ∃ (lf2 : Nat → Int32), ∃ (qu2 : Nat → Int32), ∃ (qd2 : Nat → Int32), (rng qu2 480 (0) (479)) ∧ (0 ≤ tl2.toInt ∧ tl2.toInt < 480) ∧ (0 ≤ st2.toInt ∧ st2.toInt < 480) ∧ w = [(wh, .inr (7, [.ref ct, .ref vw, .ref pr, .ref wD_, .ref wL, .ref wQ, .ref wE, .int wt2, .int tl2, .int g, .int st2])), (wD_, .inl (cI, 7, .inl du2)), (wL, .inl (cI, 480, .inl lf2)), (wQ, .inl (cI, 480, .inl qu2)), (wE, .inl (cI, 480, .inl qd2)), (ct, .inr (1, [.int cw, .int ch, .int cp, .ref aCells, .ref aPrices, .ref aFree, .ref aPlaces, .ref aHomes, .ref aManners, .ref aGone, .ref aPaid, .ref aBlinks])), (aPlaces, .inl (cI, 6, .inl fl)), (aHomes, .inl (cI, 6, .inl fh)), (aManners, .inl (cI, 6, .inl fm)), (aFree, .inl (cI, 6, .inl ff)), (pr, .inl (cI, 6, .inl pf))])) (wD D A) A) ([.ref wh, .int a, .int g] : List Value).toArray s 0 0 A) (F0 m 68 ls [])) : ∀ (mN : Nat) (i : Int32) (du : Nat → Int32), (rng qu 480 (0) (479)) → (rng fl 6 (0) (79)) → (rng fh 6 (0) (79)) → (0 ≤ i.toInt ∧ i.toInt ≤ 6) → ((6 - i.toInt).toNat < mN) → ∀ (H : Heap) (locs : List Loc) (ls : Array Slot), va_P D vwCl [(wh, .inr (7, [.ref ct, .ref vw, .ref pr, .ref wD_, .ref wL, .ref wQ, .ref wE, .int wt, .int tl, .int g, .int st1])), (wD_, .inl (cI, 7, .inl du)), (wL, .inl (cI, 480, .inl lf)), (wQ, .inl (cI, 480, .inl qu)), (wE, .inl (cI, 480, .inl qd)), (ct, .inr (1, [.int cw, .int ch, .int cp, .ref aCells, .ref aPrices, .ref aFree, .ref aPlaces, .ref aHomes, .ref aManners, .ref aGone, .ref aPaid, .ref aBlinks])), (aPlaces, .inl (cI, 6, .inl fl)), (aHomes, .inl (cI, 6, .inl fh)), (aManners, .inl (cI, 6, .inl fm)), (aFree, .inl (cI, 6, .inl ff)), (pr, .inl (cI, 6, .inl pf))] H → va_D A [(wh, .inr (7, [.ref ct, .ref vw, .ref pr, .ref wD_, .ref wL, .ref wQ, .ref wE, .int wt, .int tl, .int g, .int st1])), (wD_, .inl (cI, 7, .inl du)), (wL, .inl (cI, 480, .inl lf)), (wQ, .inl (cI, 480, .inl qu)), (wE, .inl (cI, 480, .inl qd)), (ct, .inr (1, [.int cw, .int ch, .int cp, .ref aCells, .ref aPrices, .ref aFree, .ref aPlaces, .ref aHomes, .ref aManners, .ref aGone, .ref aPaid, .ref aBlinks])), (aPlaces, .inl (cI, 6, .inl fl)), (aHomes, .inl (cI, 6, .inl fh)), (aManners, .inl (cI, 6, .inl fm)), (aFree, .inl (cI, 6, .inl ff)), (pr, .inl (cI, 6, .inl pf))] → va_S A s.heap H locs → lv_has ls 4 [(3, .int i), (0, .ref wh), (1, .int a), (2, .int g)] → W p l e (rmW 1 40 0 0) s m ([.ref wh, .int a, .int g] : List Value).toArray below meth c H locs 0 0 (MQ below (va_Qv (fun w => (∃ (wt2 : Int32), ∃ (tl2 : Int32), ∃ (st2 : Int32), ∃ (du2 : Nat → Int32), ∃ (lf2 : Nat → Int32), ∃ (qu2 : Nat → Int32), ∃ (qd2 : Nat → Int32), (rng qu2 480 (0) (479)) ∧ (0 ≤ tl2.toInt ∧ tl2.toInt < 480) ∧ (0 ≤ st2.toInt ∧ st2.toInt < 480) ∧ w = [(wh, .inr (7, [.ref ct, .ref vw, .ref pr, .ref wD_, .ref wL, .ref wQ, .ref wE, .int wt2, .int tl2, .int g, .int st2])), (wD_, .inl (cI, 7, .inl du2)), (wL, .inl (cI, 480, .inl lf2)), (wQ, .inl (cI, 480, .inl qu2)), (wE, .inl (cI, 480, .inl qd2)), (ct, .inr (1, [.int cw, .int ch, .int cp, .ref aCells, .ref aPrices, .ref aFree, .ref aPlaces, .ref aHomes, .ref aManners, .ref aGone, .ref aPaid, .ref aBlinks])), (aPlaces, .inl (cI, 6, .inl fl)), (aHomes, .inl (cI, 6, .inl fh)), (aManners, .inl (cI, 6, .inl fm)), (aFree, .inl (cI, 6, .inl ff)), (pr, .inl (cI, 6, .inl pf))])) (wD D A) A) ([.ref wh, .int a, .int g] : List Value).toArray s 0 0 A) (F0 m 28 ls []) := by
  have S : CallFix p m c cX7_begin 4 s ([.ref wh, .int a, .int g] : List Value).toArray wsX7_begin RX7 := X.1
  have iX7 := jX7_begin_X7
  intro mN
  induction mN with
  | zero => intro i du hrg_qu hrg_fl hrg_fh hi hm; exact absurd hm (Nat.not_lt_zero _)
  | succ mN ih =>
    intro i du hrg_qu hrg_fl hrg_fh hi hm H locs ls hP hD hS hl
    refine lv_iload_n S.1 S.2.1 dX7_begin_28 rfl (lv_at hl 0 rfl) ?_
    refine lv_bipush (v := (6)) S.1 S.2.1 dX7_begin_29 (by decide) ?_
    refine lv_icmp_ge (tgt := 68) S.1 S.2.1 dX7_begin_31 (by decide) (fun c_101 => ?_) (fun c_101 => ?_)
    · rw [le2 (a := 6) (b := i) (A := 6) (B := i.toInt) rfl rfl] at c_101
      exact K i du (by first | with_reducible assumption | assumption | omega | decide | (rw [show Int32.toInt 0 = 0 from rfl]; omega)) (by first | with_reducible assumption | assumption | omega | decide | (rw [show Int32.toInt 0 = 0 from rfl]; omega)) (by first | with_reducible assumption | assumption | omega | decide | (rw [show Int32.toInt 0 = 0 from rfl]; omega)) (by first | with_reducible assumption | decide | (and_intros <;> first | with_reducible assumption | (intros; refine Int.le_antisymm ?_ ?_ <;> omega) | omega) | assumption | (rw [show Int32.toInt 0 = 0 from rfl]; omega)) H _ ls hP hD hS (lv_sub hl [0, 1, 2, 3] rfl)
    · rw [le2 (a := 6) (b := i) (A := 6) (B := i.toInt) rfl rfl] at c_101
      refine lv_aload_n S.1 S.2.1 dX7_begin_34 rfl (lv_at hl 1 rfl) ?_
      refine b_get (v := .ref wD_) S iX7 hK hP 0 rfl rfl 3 (by decide) (by decide +kernel) rfl dX7_begin_35 ?_
      refine lv_iload_n S.1 S.2.1 dX7_begin_38 rfl (lv_at hl 0 rfl) ?_
      refine lv_aload_n S.1 S.2.1 dX7_begin_39 rfl (lv_at hl 1 rfl) ?_
      refine b_get (v := .ref ct) S iX7 hK hP 0 rfl rfl 0 (by decide) (by decide +kernel) rfl dX7_begin_40 ?_
      refine lv_iload_n S.1 S.2.1 dX7_begin_43 rfl (lv_at hl 2 rfl) ?_
      refine lv_iload_n S.1 S.2.1 dX7_begin_44 rfl (lv_at hl 0 rfl) ?_
      refine b_ai (wr := [(wh, .inr (7, [.ref ct, .ref vw, .ref pr, .ref wD_, .ref wL, .ref wQ, .ref wE, .int wt, .int tl, .int g, .int st1])), (wD_, .inl (cI, 7, .inl du)), (wL, .inl (cI, 480, .inl lf)), (wQ, .inl (cI, 480, .inl qu)), (wE, .inl (cI, 480, .inl qd)), (aPlaces, .inl (cI, 6, .inl fl)), (aHomes, .inl (cI, 6, .inl fh)), (pr, .inl (cI, 6, .inl pf))]) (b_runV (q0 := 5) (ci := 1) (As := [.int a, .int i]) (s_X1_pays l D cI cZ cC cS sq H.size ct aManners aFree a i cw ch cp aCells aPrices aPlaces aHomes aGone aPaid aBlinks fm ff (by first | with_reducible assumption | decide | (and_intros <;> first | with_reducible assumption | (intros; refine Int.le_antisymm ?_ ?_ <;> omega) | omega) | assumption | (rw [show Int32.toInt 0 = 0 from rfl]; omega)) (by first | with_reducible assumption | decide | (and_intros <;> first | with_reducible assumption | (intros; refine Int.le_antisymm ?_ ?_ <;> omega) | omega) | assumption | (rw [show Int32.toInt 0 = 0 from rfl]; omega))) S gX7_begin_X1_pays rfl hdV_X1_pays ⟨Nat.le_of_ble_eq_true rfl, Nat.le_of_ble_eq_true rfl⟩ ⟨Nat.le_of_ble_eq_true rfl, Nat.le_of_ble_eq_true rfl⟩ hK hT hS hA hP hD rfl rfl [5, 8, 9] rfl (by decide) rfl hl.1 rfl (Nat.le_of_ble_eq_true rfl) dX7_begin_45) hP hD hS hA [5, 8, 9] [0, 1, 2, 3, 4, 6, 7, 10] rfl rfl (by decide) (by decide) (fun r_102 w_103 H locs hw_104 hP hD hS => ?_)
      rcases hw_104 with ⟨hf_105, rfl, rfl⟩ | ⟨hf_106, rfl, rfl⟩
      · have hP : va_P D vwCl [(wh, .inr (7, [.ref ct, .ref vw, .ref pr, .ref wD_, .ref wL, .ref wQ, .ref wE, .int wt, .int tl, .int g, .int st1])), (wD_, .inl (cI, 7, .inl du)), (wL, .inl (cI, 480, .inl lf)), (wQ, .inl (cI, 480, .inl qu)), (wE, .inl (cI, 480, .inl qd)), (aPlaces, .inl (cI, 6, .inl fl)), (aHomes, .inl (cI, 6, .inl fh)), (pr, .inl (cI, 6, .inl pf)), (ct, .inr (1, [.int cw, .int ch, .int cp, .ref aCells, .ref aPrices, .ref aFree, .ref aPlaces, .ref aHomes, .ref aManners, .ref aGone, .ref aPaid, .ref aBlinks])), (aManners, .inl (cI, 6, .inl fm)), (aFree, .inl (cI, 6, .inl ff))] H := hP
        have hD : va_D A [(wh, .inr (7, [.ref ct, .ref vw, .ref pr, .ref wD_, .ref wL, .ref wQ, .ref wE, .int wt, .int tl, .int g, .int st1])), (wD_, .inl (cI, 7, .inl du)), (wL, .inl (cI, 480, .inl lf)), (wQ, .inl (cI, 480, .inl qu)), (wE, .inl (cI, 480, .inl qd)), (aPlaces, .inl (cI, 6, .inl fl)), (aHomes, .inl (cI, 6, .inl fh)), (pr, .inl (cI, 6, .inl pf)), (ct, .inr (1, [.int cw, .int ch, .int cp, .ref aCells, .ref aPrices, .ref aFree, .ref aPlaces, .ref aHomes, .ref aManners, .ref aGone, .ref aPaid, .ref aBlinks])), (aManners, .inl (cI, 6, .inl fm)), (aFree, .inl (cI, 6, .inl ff))] := hD
        refine lv_if_eq (tgt := 60) S.1 S.2.1 dX7_begin_48 (by decide) (fun c_107 => absurd c_107 (by decide)) (fun c_107 => ?_)
        refine lv_aload_n S.1 S.2.1 dX7_begin_51 rfl (lv_at hl 1 rfl) ?_
        refine b_get (v := .ref pr) S iX7 hK hP 0 rfl rfl 2 (by decide) (by decide +kernel) rfl dX7_begin_52 ?_
        refine lv_iload_n S.1 S.2.1 dX7_begin_55 rfl (lv_at hl 0 rfl) ?_
        have hin_108 : vp_in i 6 := (in_of (n := 6) (by  omega) (by  omega))
        refine va_iald S.1 S.2.1 hK.1 hP 7 0 rfl rfl hin_108 dX7_begin_56 ?_
        refine lv_topi (fun x_109 ex_109 => ?_)
        refine lv_goto (tgt := 61) S.1 S.2.1 dX7_begin_57 (by decide) ?_
        refine va_iast S.1 S.2.1 hK.1 hP hD hS 1 0 rfl rfl (in_of (n := 7) (by  omega) (by  omega)) dX7_begin_61 (fun H locs hP hD hS => ?_)
        obtain ⟨f_110, hf_110⟩ : ∃ g, (upd du i.toNatClampNeg (x_109)) = g := ⟨_, rfl⟩
        have hP : va_P D vwCl [(wh, .inr (7, [.ref ct, .ref vw, .ref pr, .ref wD_, .ref wL, .ref wQ, .ref wE, .int wt, .int tl, .int g, .int st1])), (wD_, .inl (cI, 7, .inl (upd du i.toNatClampNeg (x_109)))), (wL, .inl (cI, 480, .inl lf)), (wQ, .inl (cI, 480, .inl qu)), (wE, .inl (cI, 480, .inl qd)), (aPlaces, .inl (cI, 6, .inl fl)), (aHomes, .inl (cI, 6, .inl fh)), (pr, .inl (cI, 6, .inl pf)), (ct, .inr (1, [.int cw, .int ch, .int cp, .ref aCells, .ref aPrices, .ref aFree, .ref aPlaces, .ref aHomes, .ref aManners, .ref aGone, .ref aPaid, .ref aBlinks])), (aManners, .inl (cI, 6, .inl fm)), (aFree, .inl (cI, 6, .inl ff))] H := hP
        have hD : va_D A [(wh, .inr (7, [.ref ct, .ref vw, .ref pr, .ref wD_, .ref wL, .ref wQ, .ref wE, .int wt, .int tl, .int g, .int st1])), (wD_, .inl (cI, 7, .inl (upd du i.toNatClampNeg (x_109)))), (wL, .inl (cI, 480, .inl lf)), (wQ, .inl (cI, 480, .inl qu)), (wE, .inl (cI, 480, .inl qd)), (aPlaces, .inl (cI, 6, .inl fl)), (aHomes, .inl (cI, 6, .inl fh)), (pr, .inl (cI, 6, .inl pf)), (ct, .inr (1, [.int cw, .int ch, .int cp, .ref aCells, .ref aPrices, .ref aFree, .ref aPlaces, .ref aHomes, .ref aManners, .ref aGone, .ref aPaid, .ref aBlinks])), (aManners, .inl (cI, 6, .inl fm)), (aFree, .inl (cI, 6, .inl ff))] := hD
        rw [hf_110] at hP hD
        obtain ⟨x_111, ex_111⟩ : ∃ y : Int32, y = i + Int32.ofInt (1) := ⟨_, rfl⟩
        refine lv_iinc (v := x_111) (lv' := [(3, .int x_111), (0, .ref wh), (1, .int a), (2, .int g)]) S.1 S.2.1 dX7_begin_62 hl (k := 0) rfl ex_111.symm (by decide) rfl (fun ls hl => ?_)
        have tx_111 : x_111.toInt = i.toInt + (1) := addI (A := i.toInt) (B := 1) ex_111 rfl rfl (by  omega) (by  omega)
        refine lv_goto (tgt := 28) S.1 S.2.1 dX7_begin_65 (by decide) ?_
        have hP := hP.sub (ws' := [(wh, .inr (7, [.ref ct, .ref vw, .ref pr, .ref wD_, .ref wL, .ref wQ, .ref wE, .int wt, .int tl, .int g, .int st1])), (wD_, .inl (cI, 7, .inl f_110)), (wL, .inl (cI, 480, .inl lf)), (wQ, .inl (cI, 480, .inl qu)), (wE, .inl (cI, 480, .inl qd)), (ct, .inr (1, [.int cw, .int ch, .int cp, .ref aCells, .ref aPrices, .ref aFree, .ref aPlaces, .ref aHomes, .ref aManners, .ref aGone, .ref aPaid, .ref aBlinks])), (aPlaces, .inl (cI, 6, .inl fl)), (aHomes, .inl (cI, 6, .inl fh)), (aManners, .inl (cI, 6, .inl fm)), (aFree, .inl (cI, 6, .inl ff)), (pr, .inl (cI, 6, .inl pf))]) [0, 1, 2, 3, 4, 8, 5, 6, 9, 10, 7] rfl
        have hD := hD.sub (ws' := [(wh, .inr (7, [.ref ct, .ref vw, .ref pr, .ref wD_, .ref wL, .ref wQ, .ref wE, .int wt, .int tl, .int g, .int st1])), (wD_, .inl (cI, 7, .inl f_110)), (wL, .inl (cI, 480, .inl lf)), (wQ, .inl (cI, 480, .inl qu)), (wE, .inl (cI, 480, .inl qd)), (ct, .inr (1, [.int cw, .int ch, .int cp, .ref aCells, .ref aPrices, .ref aFree, .ref aPlaces, .ref aHomes, .ref aManners, .ref aGone, .ref aPaid, .ref aBlinks])), (aPlaces, .inl (cI, 6, .inl fl)), (aHomes, .inl (cI, 6, .inl fh)), (aManners, .inl (cI, 6, .inl fm)), (aFree, .inl (cI, 6, .inl ff)), (pr, .inl (cI, 6, .inl pf))]) [0, 1, 2, 3, 4, 8, 5, 6, 9, 10, 7] (by decide) rfl
        exact ih x_111 f_110 (by first | with_reducible assumption | assumption | omega | decide | (rw [show Int32.toInt 0 = 0 from rfl]; omega)) (by first | with_reducible assumption | assumption | omega | decide | (rw [show Int32.toInt 0 = 0 from rfl]; omega)) (by first | with_reducible assumption | assumption | omega | decide | (rw [show Int32.toInt 0 = 0 from rfl]; omega)) (by first | with_reducible assumption | decide | (and_intros <;> first | with_reducible assumption | (intros; refine Int.le_antisymm ?_ ?_ <;> omega) | omega) | assumption | (rw [show Int32.toInt 0 = 0 from rfl]; omega)) (by first | (and_intros <;> first | with_reducible assumption | (refine Int.le_antisymm ?_ ?_ <;> omega) | omega) | omega) H _ ls hP hD hS (lv_sub hl [0, 1, 2, 3] rfl)
      · have hP : va_P D vwCl [(wh, .inr (7, [.ref ct, .ref vw, .ref pr, .ref wD_, .ref wL, .ref wQ, .ref wE, .int wt, .int tl, .int g, .int st1])), (wD_, .inl (cI, 7, .inl du)), (wL, .inl (cI, 480, .inl lf)), (wQ, .inl (cI, 480, .inl qu)), (wE, .inl (cI, 480, .inl qd)), (aPlaces, .inl (cI, 6, .inl fl)), (aHomes, .inl (cI, 6, .inl fh)), (pr, .inl (cI, 6, .inl pf)), (ct, .inr (1, [.int cw, .int ch, .int cp, .ref aCells, .ref aPrices, .ref aFree, .ref aPlaces, .ref aHomes, .ref aManners, .ref aGone, .ref aPaid, .ref aBlinks])), (aManners, .inl (cI, 6, .inl fm)), (aFree, .inl (cI, 6, .inl ff))] H := hP
        have hD : va_D A [(wh, .inr (7, [.ref ct, .ref vw, .ref pr, .ref wD_, .ref wL, .ref wQ, .ref wE, .int wt, .int tl, .int g, .int st1])), (wD_, .inl (cI, 7, .inl du)), (wL, .inl (cI, 480, .inl lf)), (wQ, .inl (cI, 480, .inl qu)), (wE, .inl (cI, 480, .inl qd)), (aPlaces, .inl (cI, 6, .inl fl)), (aHomes, .inl (cI, 6, .inl fh)), (pr, .inl (cI, 6, .inl pf)), (ct, .inr (1, [.int cw, .int ch, .int cp, .ref aCells, .ref aPrices, .ref aFree, .ref aPlaces, .ref aHomes, .ref aManners, .ref aGone, .ref aPaid, .ref aBlinks])), (aManners, .inl (cI, 6, .inl fm)), (aFree, .inl (cI, 6, .inl ff))] := hD
        refine lv_if_eq (tgt := 60) S.1 S.2.1 dX7_begin_48 (by decide) (fun c_112 => ?_) (fun c_112 => absurd c_112 (by decide))
        refine lv_iconst (v := (0)) S.1 S.2.1 dX7_begin_60 (by decide) ?_
        refine va_iast S.1 S.2.1 hK.1 hP hD hS 1 0 rfl rfl (in_of (n := 7) (by  omega) (by  omega)) dX7_begin_61 (fun H locs hP hD hS => ?_)
        obtain ⟨f_113, hf_113⟩ : ∃ g, (upd du i.toNatClampNeg (0)) = g := ⟨_, rfl⟩
        have hP : va_P D vwCl [(wh, .inr (7, [.ref ct, .ref vw, .ref pr, .ref wD_, .ref wL, .ref wQ, .ref wE, .int wt, .int tl, .int g, .int st1])), (wD_, .inl (cI, 7, .inl (upd du i.toNatClampNeg (0)))), (wL, .inl (cI, 480, .inl lf)), (wQ, .inl (cI, 480, .inl qu)), (wE, .inl (cI, 480, .inl qd)), (aPlaces, .inl (cI, 6, .inl fl)), (aHomes, .inl (cI, 6, .inl fh)), (pr, .inl (cI, 6, .inl pf)), (ct, .inr (1, [.int cw, .int ch, .int cp, .ref aCells, .ref aPrices, .ref aFree, .ref aPlaces, .ref aHomes, .ref aManners, .ref aGone, .ref aPaid, .ref aBlinks])), (aManners, .inl (cI, 6, .inl fm)), (aFree, .inl (cI, 6, .inl ff))] H := hP
        have hD : va_D A [(wh, .inr (7, [.ref ct, .ref vw, .ref pr, .ref wD_, .ref wL, .ref wQ, .ref wE, .int wt, .int tl, .int g, .int st1])), (wD_, .inl (cI, 7, .inl (upd du i.toNatClampNeg (0)))), (wL, .inl (cI, 480, .inl lf)), (wQ, .inl (cI, 480, .inl qu)), (wE, .inl (cI, 480, .inl qd)), (aPlaces, .inl (cI, 6, .inl fl)), (aHomes, .inl (cI, 6, .inl fh)), (pr, .inl (cI, 6, .inl pf)), (ct, .inr (1, [.int cw, .int ch, .int cp, .ref aCells, .ref aPrices, .ref aFree, .ref aPlaces, .ref aHomes, .ref aManners, .ref aGone, .ref aPaid, .ref aBlinks])), (aManners, .inl (cI, 6, .inl fm)), (aFree, .inl (cI, 6, .inl ff))] := hD
        rw [hf_113] at hP hD
        obtain ⟨x_114, ex_114⟩ : ∃ y : Int32, y = i + Int32.ofInt (1) := ⟨_, rfl⟩
        refine lv_iinc (v := x_114) (lv' := [(3, .int x_114), (0, .ref wh), (1, .int a), (2, .int g)]) S.1 S.2.1 dX7_begin_62 hl (k := 0) rfl ex_114.symm (by decide) rfl (fun ls hl => ?_)
        have tx_114 : x_114.toInt = i.toInt + (1) := addI (A := i.toInt) (B := 1) ex_114 rfl rfl (by  omega) (by  omega)
        refine lv_goto (tgt := 28) S.1 S.2.1 dX7_begin_65 (by decide) ?_
        have hP := hP.sub (ws' := [(wh, .inr (7, [.ref ct, .ref vw, .ref pr, .ref wD_, .ref wL, .ref wQ, .ref wE, .int wt, .int tl, .int g, .int st1])), (wD_, .inl (cI, 7, .inl f_113)), (wL, .inl (cI, 480, .inl lf)), (wQ, .inl (cI, 480, .inl qu)), (wE, .inl (cI, 480, .inl qd)), (ct, .inr (1, [.int cw, .int ch, .int cp, .ref aCells, .ref aPrices, .ref aFree, .ref aPlaces, .ref aHomes, .ref aManners, .ref aGone, .ref aPaid, .ref aBlinks])), (aPlaces, .inl (cI, 6, .inl fl)), (aHomes, .inl (cI, 6, .inl fh)), (aManners, .inl (cI, 6, .inl fm)), (aFree, .inl (cI, 6, .inl ff)), (pr, .inl (cI, 6, .inl pf))]) [0, 1, 2, 3, 4, 8, 5, 6, 9, 10, 7] rfl
        have hD := hD.sub (ws' := [(wh, .inr (7, [.ref ct, .ref vw, .ref pr, .ref wD_, .ref wL, .ref wQ, .ref wE, .int wt, .int tl, .int g, .int st1])), (wD_, .inl (cI, 7, .inl f_113)), (wL, .inl (cI, 480, .inl lf)), (wQ, .inl (cI, 480, .inl qu)), (wE, .inl (cI, 480, .inl qd)), (ct, .inr (1, [.int cw, .int ch, .int cp, .ref aCells, .ref aPrices, .ref aFree, .ref aPlaces, .ref aHomes, .ref aManners, .ref aGone, .ref aPaid, .ref aBlinks])), (aPlaces, .inl (cI, 6, .inl fl)), (aHomes, .inl (cI, 6, .inl fh)), (aManners, .inl (cI, 6, .inl fm)), (aFree, .inl (cI, 6, .inl ff)), (pr, .inl (cI, 6, .inl pf))]) [0, 1, 2, 3, 4, 8, 5, 6, 9, 10, 7] (by decide) rfl
        exact ih x_114 f_113 (by first | with_reducible assumption | assumption | omega | decide | (rw [show Int32.toInt 0 = 0 from rfl]; omega)) (by first | with_reducible assumption | assumption | omega | decide | (rw [show Int32.toInt 0 = 0 from rfl]; omega)) (by first | with_reducible assumption | assumption | omega | decide | (rw [show Int32.toInt 0 = 0 from rfl]; omega)) (by first | with_reducible assumption | decide | (and_intros <;> first | with_reducible assumption | (intros; refine Int.le_antisymm ?_ ?_ <;> omega) | omega) | assumption | (rw [show Int32.toInt 0 = 0 from rfl]; omega)) (by first | (and_intros <;> first | with_reducible assumption | (refine Int.le_antisymm ?_ ?_ <;> omega) | omega) | omega) H _ ls hP hD hS (lv_sub hl [0, 1, 2, 3] rfl)
set_option maxHeartbeats 4000000 in
set_option maxRecDepth 100000 in
theorem lp_begin2 {p : Program} (l : Launch) {e : Env} {s : State} {m : MethodId} {below : List Frame} {meth : Method} {c : Code} (D : va_G) (cI cZ cC cS : ClassId) (sq : Nat → Nat) (wh : Nat) (wD_ : Nat) (wL : Nat) (wQ : Nat) (wE : Nat) (ct : Nat) (aPlaces : Nat) (aHomes : Nat) (aManners : Nat) (aFree : Nat) (pr : Nat) (a : Int32) (g : Int32) (vw : Nat) (wt : Int32) (tl : Int32) (bd : Int32) (st : Int32) (du : Nat → Int32) (lf : Nat → Int32) (qu : Nat → Int32) (qd : Nat → Int32) (cw : Int32) (ch : Int32) (cp : Int32) (aCells : Nat) (aPrices : Nat) (aGone : Nat) (aPaid : Nat) (aBlinks : Nat) (fl : Nat → Int32) (fh : Nat → Int32) (fm : Nat → Int32) (ff : Nat → Int32) (pf : Nat → Int32) (hrg_qu : rng qu 480 (0) (479)) (hrg_fl : rng fl 6 (0) (79)) (hrg_fh : rng fh 6 (0) (79)) (ha : 0 ≤ a.toInt ∧ a.toInt < 6) (hg : 0 ≤ g.toInt ∧ g.toInt ≤ 5) (st1 : Int32) {A : Nat → Prop} (X : bX p s m meth c cX7_begin 4 wsX7_begin yX7_begin none [.ref wh, .int a, .int g]) (hK : kW D (tyW cI cZ cC cS) sq s) (hT : sT sq A s s.heap) (hA : ∀ q, s.heap.size ≤ q → A q) (K : ∀ (i : Int32) (du : Nat → Int32) (lf : Nat → Int32) (qd : Nat → Int32), (rng qu 480 (0) (479)) → (rng fl 6 (0) (79)) → (rng fh 6 (0) (79)) → (0 ≤ i.toInt ∧ i.toInt ≤ 480) → ∀ (H : Heap) (locs : List Loc) (ls : Array Slot), va_P D vwCl [(wh, .inr (7, [.ref ct, .ref vw, .ref pr, .ref wD_, .ref wL, .ref wQ, .ref wE, .int wt, .int tl, .int g, .int st1])), (wD_, .inl (cI, 7, .inl du)), (wL, .inl (cI, 480, .inl lf)), (wQ, .inl (cI, 480, .inl qu)), (wE, .inl (cI, 480, .inl qd)), (ct, .inr (1, [.int cw, .int ch, .int cp, .ref aCells, .ref aPrices, .ref aFree, .ref aPlaces, .ref aHomes, .ref aManners, .ref aGone, .ref aPaid, .ref aBlinks])), (aPlaces, .inl (cI, 6, .inl fl)), (aHomes, .inl (cI, 6, .inl fh)), (aManners, .inl (cI, 6, .inl fm)), (aFree, .inl (cI, 6, .inl ff)), (pr, .inl (cI, 6, .inl pf))] H → va_D A [(wh, .inr (7, [.ref ct, .ref vw, .ref pr, .ref wD_, .ref wL, .ref wQ, .ref wE, .int wt, .int tl, .int g, .int st1])), (wD_, .inl (cI, 7, .inl du)), (wL, .inl (cI, 480, .inl lf)), (wQ, .inl (cI, 480, .inl qu)), (wE, .inl (cI, 480, .inl qd)), (ct, .inr (1, [.int cw, .int ch, .int cp, .ref aCells, .ref aPrices, .ref aFree, .ref aPlaces, .ref aHomes, .ref aManners, .ref aGone, .ref aPaid, .ref aBlinks])), (aPlaces, .inl (cI, 6, .inl fl)), (aHomes, .inl (cI, 6, .inl fh)), (aManners, .inl (cI, 6, .inl fm)), (aFree, .inl (cI, 6, .inl ff)), (pr, .inl (cI, 6, .inl pf))] → va_S A s.heap H locs → lv_has ls 4 [(3, .int i), (0, .ref wh), (1, .int a), (2, .int g)] → W p l e (rmW 1 40 0 0) s m ([.ref wh, .int a, .int g] : List Value).toArray below meth c H locs 0 0 (MQ below (va_Qv (fun w => (∃ (wt2 : Int32), ∃ (tl2 : Int32), ∃ (st2 : Int32), ∃ (du2 : Nat → Int32), ∃ (lf2 : Nat → Int32), ∃ (qu2 : Nat → Int32), ∃ (qd2 : Nat → Int32), (rng qu2 480 (0) (479)) ∧ (0 ≤ tl2.toInt ∧ tl2.toInt < 480) ∧ (0 ≤ st2.toInt ∧ st2.toInt < 480) ∧ w = [(wh, .inr (7, [.ref ct, .ref vw, .ref pr, .ref wD_, .ref wL, .ref wQ, .ref wE, .int wt2, .int tl2, .int g, .int st2])), (wD_, .inl (cI, 7, .inl du2)), (wL, .inl (cI, 480, .inl lf2)), (wQ, .inl (cI, 480, .inl qu2)), (wE, .inl (cI, 480, .inl qd2)), (ct, .inr (1, [.int cw, .int ch, .int cp, .ref aCells, .ref aPrices, .ref aFree, .ref aPlaces, .ref aHomes, .ref aManners, .ref aGone, .ref aPaid, .ref aBlinks])), (aPlaces, .inl (cI, 6, .inl fl)), (aHomes, .inl (cI, 6, .inl fh)), (aManners, .inl (cI, 6, .inl fm)), (aFree, .inl (cI, 6, .inl ff)), (pr, .inl (cI, 6, .inl pf))])) (wD D A) A) ([.ref wh, .int a, .int g] : List Value).toArray s 0 0 A) (F0 m 104 ls [])) : ∀ (mN : Nat) (i : Int32) (du : Nat → Int32) (lf : Nat → Int32) (qd : Nat → Int32), (rng qu 480 (0) (479)) → (rng fl 6 (0) (79)) → (rng fh 6 (0) (79)) → (0 ≤ i.toInt ∧ i.toInt ≤ 480) → ((480 - i.toInt).toNat < mN) → ∀ (H : Heap) (locs : List Loc) (ls : Array Slot), va_P D vwCl [(wh, .inr (7, [.ref ct, .ref vw, .ref pr, .ref wD_, .ref wL, .ref wQ, .ref wE, .int wt, .int tl, .int g, .int st1])), (wD_, .inl (cI, 7, .inl du)), (wL, .inl (cI, 480, .inl lf)), (wQ, .inl (cI, 480, .inl qu)), (wE, .inl (cI, 480, .inl qd)), (ct, .inr (1, [.int cw, .int ch, .int cp, .ref aCells, .ref aPrices, .ref aFree, .ref aPlaces, .ref aHomes, .ref aManners, .ref aGone, .ref aPaid, .ref aBlinks])), (aPlaces, .inl (cI, 6, .inl fl)), (aHomes, .inl (cI, 6, .inl fh)), (aManners, .inl (cI, 6, .inl fm)), (aFree, .inl (cI, 6, .inl ff)), (pr, .inl (cI, 6, .inl pf))] H → va_D A [(wh, .inr (7, [.ref ct, .ref vw, .ref pr, .ref wD_, .ref wL, .ref wQ, .ref wE, .int wt, .int tl, .int g, .int st1])), (wD_, .inl (cI, 7, .inl du)), (wL, .inl (cI, 480, .inl lf)), (wQ, .inl (cI, 480, .inl qu)), (wE, .inl (cI, 480, .inl qd)), (ct, .inr (1, [.int cw, .int ch, .int cp, .ref aCells, .ref aPrices, .ref aFree, .ref aPlaces, .ref aHomes, .ref aManners, .ref aGone, .ref aPaid, .ref aBlinks])), (aPlaces, .inl (cI, 6, .inl fl)), (aHomes, .inl (cI, 6, .inl fh)), (aManners, .inl (cI, 6, .inl fm)), (aFree, .inl (cI, 6, .inl ff)), (pr, .inl (cI, 6, .inl pf))] → va_S A s.heap H locs → lv_has ls 4 [(3, .int i), (0, .ref wh), (1, .int a), (2, .int g)] → W p l e (rmW 1 40 0 0) s m ([.ref wh, .int a, .int g] : List Value).toArray below meth c H locs 0 0 (MQ below (va_Qv (fun w => (∃ (wt2 : Int32), ∃ (tl2 : Int32), ∃ (st2 : Int32), ∃ (du2 : Nat → Int32), ∃ (lf2 : Nat → Int32), ∃ (qu2 : Nat → Int32), ∃ (qd2 : Nat → Int32), (rng qu2 480 (0) (479)) ∧ (0 ≤ tl2.toInt ∧ tl2.toInt < 480) ∧ (0 ≤ st2.toInt ∧ st2.toInt < 480) ∧ w = [(wh, .inr (7, [.ref ct, .ref vw, .ref pr, .ref wD_, .ref wL, .ref wQ, .ref wE, .int wt2, .int tl2, .int g, .int st2])), (wD_, .inl (cI, 7, .inl du2)), (wL, .inl (cI, 480, .inl lf2)), (wQ, .inl (cI, 480, .inl qu2)), (wE, .inl (cI, 480, .inl qd2)), (ct, .inr (1, [.int cw, .int ch, .int cp, .ref aCells, .ref aPrices, .ref aFree, .ref aPlaces, .ref aHomes, .ref aManners, .ref aGone, .ref aPaid, .ref aBlinks])), (aPlaces, .inl (cI, 6, .inl fl)), (aHomes, .inl (cI, 6, .inl fh)), (aManners, .inl (cI, 6, .inl fm)), (aFree, .inl (cI, 6, .inl ff)), (pr, .inl (cI, 6, .inl pf))])) (wD D A) A) ([.ref wh, .int a, .int g] : List Value).toArray s 0 0 A) (F0 m 70 ls []) := by
  have S : CallFix p m c cX7_begin 4 s ([.ref wh, .int a, .int g] : List Value).toArray wsX7_begin RX7 := X.1
  have iX7 := jX7_begin_X7
  intro mN
  induction mN with
  | zero => intro i du lf qd hrg_qu hrg_fl hrg_fh hi hm; exact absurd hm (Nat.not_lt_zero _)
  | succ mN ih =>
    intro i du lf qd hrg_qu hrg_fl hrg_fh hi hm H locs ls hP hD hS hl
    refine lv_iload_n S.1 S.2.1 dX7_begin_70 rfl (lv_at hl 0 rfl) ?_
    refine lv_aload_n S.1 S.2.1 dX7_begin_71 rfl (lv_at hl 1 rfl) ?_
    refine b_get (v := .int g) S iX7 hK hP 0 rfl rfl 9 (by decide) (by decide +kernel) rfl dX7_begin_72 ?_
    refine lv_iconst (v := (1)) S.1 S.2.1 dX7_begin_75 (by decide) ?_
    refine lv_iadd S.1 S.2.1 dX7_begin_76 ?_
    refine lv_topi (fun x_201 ex_201 => ?_)
    have tx_201 : x_201.toInt = g.toInt + (1) := addI (A := g.toInt) (B := 1) ex_201 rfl rfl (by  omega) (by  omega)
    refine lv_bipush (v := (80)) S.1 S.2.1 dX7_begin_77 (by decide) ?_
    refine lv_imul S.1 S.2.1 dX7_begin_79 ?_
    refine lv_topi (fun x_202 ex_202 => ?_)
    have tx_202 : x_202.toInt = x_201.toInt * 80 := mulI (A := x_201.toInt) (B := 80) ex_202 rfl rfl (by  omega) (by  omega)
    refine lv_icmp_ge (tgt := 104) S.1 S.2.1 dX7_begin_80 (by decide) (fun c_203 => ?_) (fun c_203 => ?_)
    · rw [le2 (a := x_202) (b := i) (A := x_202.toInt) (B := i.toInt) rfl rfl] at c_203
      exact K i du lf qd (by first | with_reducible assumption | assumption | omega | decide | (rw [show Int32.toInt 0 = 0 from rfl]; omega)) (by first | with_reducible assumption | assumption | omega | decide | (rw [show Int32.toInt 0 = 0 from rfl]; omega)) (by first | with_reducible assumption | assumption | omega | decide | (rw [show Int32.toInt 0 = 0 from rfl]; omega)) (by first | with_reducible assumption | decide | (and_intros <;> first | with_reducible assumption | (intros; refine Int.le_antisymm ?_ ?_ <;> omega) | omega) | assumption | (rw [show Int32.toInt 0 = 0 from rfl]; omega)) H _ ls hP hD hS (lv_sub hl [0, 1, 2, 3] rfl)
    · rw [le2 (a := x_202) (b := i) (A := x_202.toInt) (B := i.toInt) rfl rfl] at c_203
      refine lv_aload_n S.1 S.2.1 dX7_begin_83 rfl (lv_at hl 1 rfl) ?_
      refine b_get (v := .ref wL) S iX7 hK hP 0 rfl rfl 4 (by decide) (by decide +kernel) rfl dX7_begin_84 ?_
      refine lv_iload_n S.1 S.2.1 dX7_begin_87 rfl (lv_at hl 0 rfl) ?_
      refine lv_ldc (v := (1073741824)) S.1 S.2.1 S.2.2.2.1 (S.2.2.2.2 (.constant RX7 60 (1073741824)) (by decide +kernel)) dX7_begin_88 ?_
      refine va_iast S.1 S.2.1 hK.1 hP hD hS 2 0 rfl rfl (in_of (n := 480) (by  omega) (by  omega)) dX7_begin_90 (fun H locs hP hD hS => ?_)
      obtain ⟨f_204, hf_204⟩ : ∃ g, (upd lf i.toNatClampNeg (1073741824)) = g := ⟨_, rfl⟩
      have hP : va_P D vwCl [(wh, .inr (7, [.ref ct, .ref vw, .ref pr, .ref wD_, .ref wL, .ref wQ, .ref wE, .int wt, .int tl, .int g, .int st1])), (wD_, .inl (cI, 7, .inl du)), (wL, .inl (cI, 480, .inl (upd lf i.toNatClampNeg (1073741824)))), (wQ, .inl (cI, 480, .inl qu)), (wE, .inl (cI, 480, .inl qd)), (ct, .inr (1, [.int cw, .int ch, .int cp, .ref aCells, .ref aPrices, .ref aFree, .ref aPlaces, .ref aHomes, .ref aManners, .ref aGone, .ref aPaid, .ref aBlinks])), (aPlaces, .inl (cI, 6, .inl fl)), (aHomes, .inl (cI, 6, .inl fh)), (aManners, .inl (cI, 6, .inl fm)), (aFree, .inl (cI, 6, .inl ff)), (pr, .inl (cI, 6, .inl pf))] H := hP
      have hD : va_D A [(wh, .inr (7, [.ref ct, .ref vw, .ref pr, .ref wD_, .ref wL, .ref wQ, .ref wE, .int wt, .int tl, .int g, .int st1])), (wD_, .inl (cI, 7, .inl du)), (wL, .inl (cI, 480, .inl (upd lf i.toNatClampNeg (1073741824)))), (wQ, .inl (cI, 480, .inl qu)), (wE, .inl (cI, 480, .inl qd)), (ct, .inr (1, [.int cw, .int ch, .int cp, .ref aCells, .ref aPrices, .ref aFree, .ref aPlaces, .ref aHomes, .ref aManners, .ref aGone, .ref aPaid, .ref aBlinks])), (aPlaces, .inl (cI, 6, .inl fl)), (aHomes, .inl (cI, 6, .inl fh)), (aManners, .inl (cI, 6, .inl fm)), (aFree, .inl (cI, 6, .inl ff)), (pr, .inl (cI, 6, .inl pf))] := hD
      rw [hf_204] at hP hD
      refine lv_aload_n S.1 S.2.1 dX7_begin_91 rfl (lv_at hl 1 rfl) ?_
      refine b_get (v := .ref wE) S iX7 hK hP 0 rfl rfl 6 (by decide) (by decide +kernel) rfl dX7_begin_92 ?_
      refine lv_iload_n S.1 S.2.1 dX7_begin_95 rfl (lv_at hl 0 rfl) ?_
      refine lv_iconst (v := (0)) S.1 S.2.1 dX7_begin_96 (by decide) ?_
      refine va_iast S.1 S.2.1 hK.1 hP hD hS 4 0 rfl rfl (in_of (n := 480) (by  omega) (by  omega)) dX7_begin_97 (fun H locs hP hD hS => ?_)
      obtain ⟨f_205, hf_205⟩ : ∃ g, (upd qd i.toNatClampNeg (0)) = g := ⟨_, rfl⟩
      have hP : va_P D vwCl [(wh, .inr (7, [.ref ct, .ref vw, .ref pr, .ref wD_, .ref wL, .ref wQ, .ref wE, .int wt, .int tl, .int g, .int st1])), (wD_, .inl (cI, 7, .inl du)), (wL, .inl (cI, 480, .inl f_204)), (wQ, .inl (cI, 480, .inl qu)), (wE, .inl (cI, 480, .inl (upd qd i.toNatClampNeg (0)))), (ct, .inr (1, [.int cw, .int ch, .int cp, .ref aCells, .ref aPrices, .ref aFree, .ref aPlaces, .ref aHomes, .ref aManners, .ref aGone, .ref aPaid, .ref aBlinks])), (aPlaces, .inl (cI, 6, .inl fl)), (aHomes, .inl (cI, 6, .inl fh)), (aManners, .inl (cI, 6, .inl fm)), (aFree, .inl (cI, 6, .inl ff)), (pr, .inl (cI, 6, .inl pf))] H := hP
      have hD : va_D A [(wh, .inr (7, [.ref ct, .ref vw, .ref pr, .ref wD_, .ref wL, .ref wQ, .ref wE, .int wt, .int tl, .int g, .int st1])), (wD_, .inl (cI, 7, .inl du)), (wL, .inl (cI, 480, .inl f_204)), (wQ, .inl (cI, 480, .inl qu)), (wE, .inl (cI, 480, .inl (upd qd i.toNatClampNeg (0)))), (ct, .inr (1, [.int cw, .int ch, .int cp, .ref aCells, .ref aPrices, .ref aFree, .ref aPlaces, .ref aHomes, .ref aManners, .ref aGone, .ref aPaid, .ref aBlinks])), (aPlaces, .inl (cI, 6, .inl fl)), (aHomes, .inl (cI, 6, .inl fh)), (aManners, .inl (cI, 6, .inl fm)), (aFree, .inl (cI, 6, .inl ff)), (pr, .inl (cI, 6, .inl pf))] := hD
      rw [hf_205] at hP hD
      obtain ⟨x_206, ex_206⟩ : ∃ y : Int32, y = i + Int32.ofInt (1) := ⟨_, rfl⟩
      refine lv_iinc (v := x_206) (lv' := [(3, .int x_206), (0, .ref wh), (1, .int a), (2, .int g)]) S.1 S.2.1 dX7_begin_98 hl (k := 0) rfl ex_206.symm (by decide) rfl (fun ls hl => ?_)
      have tx_206 : x_206.toInt = i.toInt + (1) := addI (A := i.toInt) (B := 1) ex_206 rfl rfl (by  omega) (by  omega)
      refine lv_goto (tgt := 70) S.1 S.2.1 dX7_begin_101 (by decide) ?_
      exact ih x_206 du f_204 f_205 (by first | with_reducible assumption | assumption | omega | decide | (rw [show Int32.toInt 0 = 0 from rfl]; omega)) (by first | with_reducible assumption | assumption | omega | decide | (rw [show Int32.toInt 0 = 0 from rfl]; omega)) (by first | with_reducible assumption | assumption | omega | decide | (rw [show Int32.toInt 0 = 0 from rfl]; omega)) (by first | with_reducible assumption | decide | (and_intros <;> first | with_reducible assumption | (intros; refine Int.le_antisymm ?_ ?_ <;> omega) | omega) | assumption | (rw [show Int32.toInt 0 = 0 from rfl]; omega)) (by first | (and_intros <;> first | with_reducible assumption | (refine Int.le_antisymm ?_ ?_ <;> omega) | omega) | omega) H _ ls hP hD hS (lv_sub hl [0, 1, 2, 3] rfl)
set_option maxHeartbeats 4000000 in
set_option maxRecDepth 100000 in
theorem lp_begin3 {p : Program} (l : Launch) {e : Env} {s : State} {m : MethodId} {below : List Frame} {meth : Method} {c : Code} (D : va_G) (cI cZ cC cS : ClassId) (sq : Nat → Nat) (wh : Nat) (wD_ : Nat) (wL : Nat) (wQ : Nat) (wE : Nat) (ct : Nat) (aPlaces : Nat) (aHomes : Nat) (aManners : Nat) (aFree : Nat) (pr : Nat) (a : Int32) (g : Int32) (vw : Nat) (wt : Int32) (tl : Int32) (bd : Int32) (st : Int32) (du : Nat → Int32) (lf : Nat → Int32) (qu : Nat → Int32) (qd : Nat → Int32) (cw : Int32) (ch : Int32) (cp : Int32) (aCells : Nat) (aPrices : Nat) (aGone : Nat) (aPaid : Nat) (aBlinks : Nat) (fl : Nat → Int32) (fh : Nat → Int32) (fm : Nat → Int32) (ff : Nat → Int32) (pf : Nat → Int32) (hrg_qu : rng qu 480 (0) (479)) (hrg_fl : rng fl 6 (0) (79)) (hrg_fh : rng fh 6 (0) (79)) (ha : 0 ≤ a.toInt ∧ a.toInt < 6) (hg : 0 ≤ g.toInt ∧ g.toInt ≤ 5) (st1 : Int32) (hs1 : 0 ≤ st1.toInt ∧ st1.toInt < 480) {A : Nat → Prop} (X : bX p s m meth c cX7_begin 4 wsX7_begin yX7_begin none [.ref wh, .int a, .int g]) (hK : kW D (tyW cI cZ cC cS) sq s) (hT : sT sq A s s.heap) (hA : ∀ q, s.heap.size ≤ q → A q) (K : ∀ (i : Int32) (wt : Int32) (tl : Int32) (du : Nat → Int32) (lf : Nat → Int32) (qu : Nat → Int32) (qd : Nat → Int32), (rng qu 480 (0) (479)) → (rng fl 6 (0) (79)) → (rng fh 6 (0) (79)) → (0 ≤ i.toInt ∧ i.toInt ≤ g.toInt + 1) → (0 ≤ tl.toInt ∧ tl.toInt < 480) → ∀ (H : Heap) (locs : List Loc) (ls : Array Slot), va_P D vwCl [(wh, .inr (7, [.ref ct, .ref vw, .ref pr, .ref wD_, .ref wL, .ref wQ, .ref wE, .int wt, .int tl, .int g, .int st1])), (wD_, .inl (cI, 7, .inl du)), (wL, .inl (cI, 480, .inl lf)), (wQ, .inl (cI, 480, .inl qu)), (wE, .inl (cI, 480, .inl qd)), (ct, .inr (1, [.int cw, .int ch, .int cp, .ref aCells, .ref aPrices, .ref aFree, .ref aPlaces, .ref aHomes, .ref aManners, .ref aGone, .ref aPaid, .ref aBlinks])), (aPlaces, .inl (cI, 6, .inl fl)), (aHomes, .inl (cI, 6, .inl fh)), (aManners, .inl (cI, 6, .inl fm)), (aFree, .inl (cI, 6, .inl ff)), (pr, .inl (cI, 6, .inl pf))] H → va_D A [(wh, .inr (7, [.ref ct, .ref vw, .ref pr, .ref wD_, .ref wL, .ref wQ, .ref wE, .int wt, .int tl, .int g, .int st1])), (wD_, .inl (cI, 7, .inl du)), (wL, .inl (cI, 480, .inl lf)), (wQ, .inl (cI, 480, .inl qu)), (wE, .inl (cI, 480, .inl qd)), (ct, .inr (1, [.int cw, .int ch, .int cp, .ref aCells, .ref aPrices, .ref aFree, .ref aPlaces, .ref aHomes, .ref aManners, .ref aGone, .ref aPaid, .ref aBlinks])), (aPlaces, .inl (cI, 6, .inl fl)), (aHomes, .inl (cI, 6, .inl fh)), (aManners, .inl (cI, 6, .inl fm)), (aFree, .inl (cI, 6, .inl ff)), (pr, .inl (cI, 6, .inl pf))] → va_S A s.heap H locs → lv_has ls 4 [(3, .int i), (0, .ref wh), (1, .int a), (2, .int g)] → W p l e (rmW 1 40 0 0) s m ([.ref wh, .int a, .int g] : List Value).toArray below meth c H locs 0 0 (MQ below (va_Qv (fun w => (∃ (wt2 : Int32), ∃ (tl2 : Int32), ∃ (st2 : Int32), ∃ (du2 : Nat → Int32), ∃ (lf2 : Nat → Int32), ∃ (qu2 : Nat → Int32), ∃ (qd2 : Nat → Int32), (rng qu2 480 (0) (479)) ∧ (0 ≤ tl2.toInt ∧ tl2.toInt < 480) ∧ (0 ≤ st2.toInt ∧ st2.toInt < 480) ∧ w = [(wh, .inr (7, [.ref ct, .ref vw, .ref pr, .ref wD_, .ref wL, .ref wQ, .ref wE, .int wt2, .int tl2, .int g, .int st2])), (wD_, .inl (cI, 7, .inl du2)), (wL, .inl (cI, 480, .inl lf2)), (wQ, .inl (cI, 480, .inl qu2)), (wE, .inl (cI, 480, .inl qd2)), (ct, .inr (1, [.int cw, .int ch, .int cp, .ref aCells, .ref aPrices, .ref aFree, .ref aPlaces, .ref aHomes, .ref aManners, .ref aGone, .ref aPaid, .ref aBlinks])), (aPlaces, .inl (cI, 6, .inl fl)), (aHomes, .inl (cI, 6, .inl fh)), (aManners, .inl (cI, 6, .inl fm)), (aFree, .inl (cI, 6, .inl ff)), (pr, .inl (cI, 6, .inl pf))])) (wD D A) A) ([.ref wh, .int a, .int g] : List Value).toArray s 0 0 A) (F0 m 149 ls [])) : ∀ (mN : Nat) (i : Int32) (wt : Int32) (tl : Int32) (du : Nat → Int32) (lf : Nat → Int32) (qu : Nat → Int32) (qd : Nat → Int32), (rng qu 480 (0) (479)) → (rng fl 6 (0) (79)) → (rng fh 6 (0) (79)) → (0 ≤ i.toInt ∧ i.toInt ≤ g.toInt + 1) → (0 ≤ tl.toInt ∧ tl.toInt < 480) → ((6 - i.toInt).toNat < mN) → ∀ (H : Heap) (locs : List Loc) (ls : Array Slot), va_P D vwCl [(wh, .inr (7, [.ref ct, .ref vw, .ref pr, .ref wD_, .ref wL, .ref wQ, .ref wE, .int wt, .int tl, .int g, .int st1])), (wD_, .inl (cI, 7, .inl du)), (wL, .inl (cI, 480, .inl lf)), (wQ, .inl (cI, 480, .inl qu)), (wE, .inl (cI, 480, .inl qd)), (ct, .inr (1, [.int cw, .int ch, .int cp, .ref aCells, .ref aPrices, .ref aFree, .ref aPlaces, .ref aHomes, .ref aManners, .ref aGone, .ref aPaid, .ref aBlinks])), (aPlaces, .inl (cI, 6, .inl fl)), (aHomes, .inl (cI, 6, .inl fh)), (aManners, .inl (cI, 6, .inl fm)), (aFree, .inl (cI, 6, .inl ff)), (pr, .inl (cI, 6, .inl pf))] H → va_D A [(wh, .inr (7, [.ref ct, .ref vw, .ref pr, .ref wD_, .ref wL, .ref wQ, .ref wE, .int wt, .int tl, .int g, .int st1])), (wD_, .inl (cI, 7, .inl du)), (wL, .inl (cI, 480, .inl lf)), (wQ, .inl (cI, 480, .inl qu)), (wE, .inl (cI, 480, .inl qd)), (ct, .inr (1, [.int cw, .int ch, .int cp, .ref aCells, .ref aPrices, .ref aFree, .ref aPlaces, .ref aHomes, .ref aManners, .ref aGone, .ref aPaid, .ref aBlinks])), (aPlaces, .inl (cI, 6, .inl fl)), (aHomes, .inl (cI, 6, .inl fh)), (aManners, .inl (cI, 6, .inl fm)), (aFree, .inl (cI, 6, .inl ff)), (pr, .inl (cI, 6, .inl pf))] → va_S A s.heap H locs → lv_has ls 4 [(3, .int i), (0, .ref wh), (1, .int a), (2, .int g)] → W p l e (rmW 1 40 0 0) s m ([.ref wh, .int a, .int g] : List Value).toArray below meth c H locs 0 0 (MQ below (va_Qv (fun w => (∃ (wt2 : Int32), ∃ (tl2 : Int32), ∃ (st2 : Int32), ∃ (du2 : Nat → Int32), ∃ (lf2 : Nat → Int32), ∃ (qu2 : Nat → Int32), ∃ (qd2 : Nat → Int32), (rng qu2 480 (0) (479)) ∧ (0 ≤ tl2.toInt ∧ tl2.toInt < 480) ∧ (0 ≤ st2.toInt ∧ st2.toInt < 480) ∧ w = [(wh, .inr (7, [.ref ct, .ref vw, .ref pr, .ref wD_, .ref wL, .ref wQ, .ref wE, .int wt2, .int tl2, .int g, .int st2])), (wD_, .inl (cI, 7, .inl du2)), (wL, .inl (cI, 480, .inl lf2)), (wQ, .inl (cI, 480, .inl qu2)), (wE, .inl (cI, 480, .inl qd2)), (ct, .inr (1, [.int cw, .int ch, .int cp, .ref aCells, .ref aPrices, .ref aFree, .ref aPlaces, .ref aHomes, .ref aManners, .ref aGone, .ref aPaid, .ref aBlinks])), (aPlaces, .inl (cI, 6, .inl fl)), (aHomes, .inl (cI, 6, .inl fh)), (aManners, .inl (cI, 6, .inl fm)), (aFree, .inl (cI, 6, .inl ff)), (pr, .inl (cI, 6, .inl pf))])) (wD D A) A) ([.ref wh, .int a, .int g] : List Value).toArray s 0 0 A) (F0 m 116 ls []) := by
  have S : CallFix p m c cX7_begin 4 s ([.ref wh, .int a, .int g] : List Value).toArray wsX7_begin RX7 := X.1
  have iX1 := jX7_begin_X1
  have iX7 := jX7_begin_X7
  intro mN
  induction mN with
  | zero => intro i wt tl du lf qu qd hrg_qu hrg_fl hrg_fh hi ht hm; exact absurd hm (Nat.not_lt_zero _)
  | succ mN ih =>
    intro i wt tl du lf qu qd hrg_qu hrg_fl hrg_fh hi ht hm H locs ls hP hD hS hl
    refine lv_iload_n S.1 S.2.1 dX7_begin_116 rfl (lv_at hl 0 rfl) ?_
    refine lv_aload_n S.1 S.2.1 dX7_begin_117 rfl (lv_at hl 1 rfl) ?_
    refine b_get (v := .int g) S iX7 hK hP 0 rfl rfl 9 (by decide) (by decide +kernel) rfl dX7_begin_118 ?_
    refine lv_icmp_gt (tgt := 149) S.1 S.2.1 dX7_begin_121 (by decide) (fun c_301 => ?_) (fun c_301 => ?_)
    · rw [lt2 (a := g) (b := i) (A := g.toInt) (B := i.toInt) rfl rfl] at c_301
      exact K i wt tl du lf qu qd (by first | with_reducible assumption | assumption | omega | decide | (rw [show Int32.toInt 0 = 0 from rfl]; omega)) (by first | with_reducible assumption | assumption | omega | decide | (rw [show Int32.toInt 0 = 0 from rfl]; omega)) (by first | with_reducible assumption | assumption | omega | decide | (rw [show Int32.toInt 0 = 0 from rfl]; omega)) (by first | with_reducible assumption | decide | (and_intros <;> first | with_reducible assumption | (intros; refine Int.le_antisymm ?_ ?_ <;> omega) | omega) | assumption | (rw [show Int32.toInt 0 = 0 from rfl]; omega)) (by first | with_reducible assumption | decide | (and_intros <;> first | with_reducible assumption | (intros; refine Int.le_antisymm ?_ ?_ <;> omega) | omega) | assumption | (rw [show Int32.toInt 0 = 0 from rfl]; omega)) H _ ls hP hD hS (lv_sub hl [0, 1, 2, 3] rfl)
    · rw [lt2 (a := g) (b := i) (A := g.toInt) (B := i.toInt) rfl rfl] at c_301
      refine lv_aload_n S.1 S.2.1 dX7_begin_124 rfl (lv_at hl 1 rfl) ?_
      refine lv_iload_n S.1 S.2.1 dX7_begin_125 rfl (lv_at hl 0 rfl) ?_
      refine lv_bipush (v := (80)) S.1 S.2.1 dX7_begin_126 (by decide) ?_
      refine lv_imul S.1 S.2.1 dX7_begin_128 ?_
      refine lv_topi (fun x_302 ex_302 => ?_)
      have tx_302 : x_302.toInt = i.toInt * 80 := mulI (A := i.toInt) (B := 80) ex_302 rfl rfl (by  omega) (by  omega)
      refine lv_aload_n S.1 S.2.1 dX7_begin_129 rfl (lv_at hl 1 rfl) ?_
      refine b_get (v := .ref ct) S iX7 hK hP 0 rfl rfl 0 (by decide) (by decide +kernel) rfl dX7_begin_130 ?_
      refine b_get (v := .ref aHomes) S iX1 hK hP 5 rfl rfl 7 (by decide) (by decide +kernel) rfl dX7_begin_133 ?_
      refine lv_iload_n S.1 S.2.1 dX7_begin_136 rfl (lv_at hl 2 rfl) ?_
      have hin_303 : vp_in a 6 := (in_of (n := 6) (by  omega) (by  omega))
      refine va_iald S.1 S.2.1 hK.1 hP 7 0 rfl rfl hin_303 dX7_begin_137 ?_
      refine lv_topi (fun x_304 ex_304 => ?_)
      have tx_304 := rng_get (x := x_304) (show rng fh 6 (0) (79) by assumption) hin_303 ex_304
      refine lv_iadd S.1 S.2.1 dX7_begin_138 ?_
      refine lv_topi (fun x_305 ex_305 => ?_)
      have tx_305 : x_305.toInt = x_302.toInt + (x_304.toInt) := addI (A := x_302.toInt) (B := x_304.toInt) ex_305 rfl rfl (by  omega) (by  omega)
      refine lv_iconst (v := (0)) S.1 S.2.1 dX7_begin_139 (by decide) ?_
      refine b_av (wr := [(wD_, .inl (cI, 7, .inl du)), (ct, .inr (1, [.int cw, .int ch, .int cp, .ref aCells, .ref aPrices, .ref aFree, .ref aPlaces, .ref aHomes, .ref aManners, .ref aGone, .ref aPaid, .ref aBlinks])), (aPlaces, .inl (cI, 6, .inl fl)), (aHomes, .inl (cI, 6, .inl fh)), (aManners, .inl (cI, 6, .inl fm)), (aFree, .inl (cI, 6, .inl ff)), (pr, .inl (cI, 6, .inl pf))]) (b_runV (q0 := 0) (ci := 7) (As := [.int x_305, .int 0]) (s_X7_offer l D cI cZ cC cS sq H.size wh wL wQ wE x_305 (0) ct vw pr wD_ wt tl g st1 lf qu qd (by first | with_reducible assumption | assumption | omega | decide | (rw [show Int32.toInt 0 = 0 from rfl]; omega)) (by first | with_reducible assumption | decide | (and_intros <;> first | with_reducible assumption | (intros; refine Int.le_antisymm ?_ ?_ <;> omega) | omega) | assumption | (rw [show Int32.toInt 0 = 0 from rfl]; omega)) (by first | with_reducible assumption | decide | (and_intros <;> first | with_reducible assumption | (intros; refine Int.le_antisymm ?_ ?_ <;> omega) | omega) | assumption | (rw [show Int32.toInt 0 = 0 from rfl]; omega)) (by first | with_reducible assumption | decide | (and_intros <;> first | with_reducible assumption | (intros; refine Int.le_antisymm ?_ ?_ <;> omega) | omega) | assumption | (rw [show Int32.toInt 0 = 0 from rfl]; omega))) S gX7_begin_X7_offer rfl hdV_X7_offer ⟨Nat.le_of_ble_eq_true rfl, Nat.le_of_ble_eq_true rfl⟩ ⟨Nat.le_of_ble_eq_true rfl, Nat.le_of_ble_eq_true rfl⟩ hK hT hS hA hP hD rfl rfl [0, 2, 3, 4] rfl (by decide) rfl hl.1 rfl (Nat.le_of_ble_eq_true rfl) dX7_begin_140) hP hD hS hA [0, 2, 3, 4] [1, 5, 6, 7, 8, 9, 10] rfl rfl (by decide) (by decide) (fun w_307 H locs hw_308 hP hD hS => ?_)
      obtain ⟨wt2_309, tl2_310, lf2_311, qu2_312, qd2_313, hf_314, hf_315, rfl⟩ := hw_308
      have hP : va_P D vwCl [(wD_, .inl (cI, 7, .inl du)), (ct, .inr (1, [.int cw, .int ch, .int cp, .ref aCells, .ref aPrices, .ref aFree, .ref aPlaces, .ref aHomes, .ref aManners, .ref aGone, .ref aPaid, .ref aBlinks])), (aPlaces, .inl (cI, 6, .inl fl)), (aHomes, .inl (cI, 6, .inl fh)), (aManners, .inl (cI, 6, .inl fm)), (aFree, .inl (cI, 6, .inl ff)), (pr, .inl (cI, 6, .inl pf)), (wh, .inr (7, [.ref ct, .ref vw, .ref pr, .ref wD_, .ref wL, .ref wQ, .ref wE, .int wt2_309, .int tl2_310, .int g, .int st1])), (wL, .inl (cI, 480, .inl lf2_311)), (wQ, .inl (cI, 480, .inl qu2_312)), (wE, .inl (cI, 480, .inl qd2_313))] H := hP
      have hD : va_D A [(wD_, .inl (cI, 7, .inl du)), (ct, .inr (1, [.int cw, .int ch, .int cp, .ref aCells, .ref aPrices, .ref aFree, .ref aPlaces, .ref aHomes, .ref aManners, .ref aGone, .ref aPaid, .ref aBlinks])), (aPlaces, .inl (cI, 6, .inl fl)), (aHomes, .inl (cI, 6, .inl fh)), (aManners, .inl (cI, 6, .inl fm)), (aFree, .inl (cI, 6, .inl ff)), (pr, .inl (cI, 6, .inl pf)), (wh, .inr (7, [.ref ct, .ref vw, .ref pr, .ref wD_, .ref wL, .ref wQ, .ref wE, .int wt2_309, .int tl2_310, .int g, .int st1])), (wL, .inl (cI, 480, .inl lf2_311)), (wQ, .inl (cI, 480, .inl qu2_312)), (wE, .inl (cI, 480, .inl qd2_313))] := hD
      obtain ⟨x_316, ex_316⟩ : ∃ y : Int32, y = i + Int32.ofInt (1) := ⟨_, rfl⟩
      refine lv_iinc (v := x_316) (lv' := [(3, .int x_316), (0, .ref wh), (1, .int a), (2, .int g)]) S.1 S.2.1 dX7_begin_143 hl (k := 0) rfl ex_316.symm (by decide) rfl (fun ls hl => ?_)
      have tx_316 : x_316.toInt = i.toInt + (1) := addI (A := i.toInt) (B := 1) ex_316 rfl rfl (by  omega) (by  omega)
      refine lv_goto (tgt := 116) S.1 S.2.1 dX7_begin_146 (by decide) ?_
      have hP := hP.sub (ws' := [(wh, .inr (7, [.ref ct, .ref vw, .ref pr, .ref wD_, .ref wL, .ref wQ, .ref wE, .int wt2_309, .int tl2_310, .int g, .int st1])), (wD_, .inl (cI, 7, .inl du)), (wL, .inl (cI, 480, .inl lf2_311)), (wQ, .inl (cI, 480, .inl qu2_312)), (wE, .inl (cI, 480, .inl qd2_313)), (ct, .inr (1, [.int cw, .int ch, .int cp, .ref aCells, .ref aPrices, .ref aFree, .ref aPlaces, .ref aHomes, .ref aManners, .ref aGone, .ref aPaid, .ref aBlinks])), (aPlaces, .inl (cI, 6, .inl fl)), (aHomes, .inl (cI, 6, .inl fh)), (aManners, .inl (cI, 6, .inl fm)), (aFree, .inl (cI, 6, .inl ff)), (pr, .inl (cI, 6, .inl pf))]) [7, 0, 8, 9, 10, 1, 2, 3, 4, 5, 6] rfl
      have hD := hD.sub (ws' := [(wh, .inr (7, [.ref ct, .ref vw, .ref pr, .ref wD_, .ref wL, .ref wQ, .ref wE, .int wt2_309, .int tl2_310, .int g, .int st1])), (wD_, .inl (cI, 7, .inl du)), (wL, .inl (cI, 480, .inl lf2_311)), (wQ, .inl (cI, 480, .inl qu2_312)), (wE, .inl (cI, 480, .inl qd2_313)), (ct, .inr (1, [.int cw, .int ch, .int cp, .ref aCells, .ref aPrices, .ref aFree, .ref aPlaces, .ref aHomes, .ref aManners, .ref aGone, .ref aPaid, .ref aBlinks])), (aPlaces, .inl (cI, 6, .inl fl)), (aHomes, .inl (cI, 6, .inl fh)), (aManners, .inl (cI, 6, .inl fm)), (aFree, .inl (cI, 6, .inl ff)), (pr, .inl (cI, 6, .inl pf))]) [7, 0, 8, 9, 10, 1, 2, 3, 4, 5, 6] (by decide) rfl
      exact ih x_316 wt2_309 tl2_310 du lf2_311 qu2_312 qd2_313 (by first | with_reducible assumption | assumption | omega | decide | (rw [show Int32.toInt 0 = 0 from rfl]; omega)) (by first | with_reducible assumption | assumption | omega | decide | (rw [show Int32.toInt 0 = 0 from rfl]; omega)) (by first | with_reducible assumption | assumption | omega | decide | (rw [show Int32.toInt 0 = 0 from rfl]; omega)) (by first | with_reducible assumption | decide | (and_intros <;> first | with_reducible assumption | (intros; refine Int.le_antisymm ?_ ?_ <;> omega) | omega) | assumption | (rw [show Int32.toInt 0 = 0 from rfl]; omega)) (by first | with_reducible assumption | decide | (and_intros <;> first | with_reducible assumption | (intros; refine Int.le_antisymm ?_ ?_ <;> omega) | omega) | assumption | (rw [show Int32.toInt 0 = 0 from rfl]; omega)) (by first | (and_intros <;> first | with_reducible assumption | (refine Int.le_antisymm ?_ ?_ <;> omega) | omega) | omega) H _ ls hP hD hS (lv_sub hl [0, 1, 2, 3] rfl)
set_option maxHeartbeats 4000000 in
set_option maxRecDepth 100000 in
theorem s_X7_begin (l : Launch) (D : va_G) (cI cZ cC cS : ClassId) (sq : Nat → Nat) (sz : Nat) (wh : Nat) (wD_ : Nat) (wL : Nat) (wQ : Nat) (wE : Nat) (ct : Nat) (aPlaces : Nat) (aHomes : Nat) (aManners : Nat) (aFree : Nat) (pr : Nat) (a : Int32) (g : Int32) (vw : Nat) (wt : Int32) (tl : Int32) (bd : Int32) (st : Int32) (du : Nat → Int32) (lf : Nat → Int32) (qu : Nat → Int32) (qd : Nat → Int32) (cw : Int32) (ch : Int32) (cp : Int32) (aCells : Nat) (aPrices : Nat) (aGone : Nat) (aPaid : Nat) (aBlinks : Nat) (fl : Nat → Int32) (fh : Nat → Int32) (fm : Nat → Int32) (ff : Nat → Int32) (pf : Nat → Int32) (hrg_qu : rng qu 480 (0) (479)) (hrg_fl : rng fl 6 (0) (79)) (hrg_fh : rng fh 6 (0) (79)) (ha : 0 ≤ a.toInt ∧ a.toInt < 6) (hg : 0 ≤ g.toInt ∧ g.toInt ≤ 5) : mV l yX7_begin wsX7_begin 1 40 0 0 D (tyW cI cZ cC cS) sq [(wh, .inr (7, [.ref ct, .ref vw, .ref pr, .ref wD_, .ref wL, .ref wQ, .ref wE, .int wt, .int tl, .int bd, .int st])), (wD_, .inl (cI, 7, .inl du)), (wL, .inl (cI, 480, .inl lf)), (wQ, .inl (cI, 480, .inl qu)), (wE, .inl (cI, 480, .inl qd)), (ct, .inr (1, [.int cw, .int ch, .int cp, .ref aCells, .ref aPrices, .ref aFree, .ref aPlaces, .ref aHomes, .ref aManners, .ref aGone, .ref aPaid, .ref aBlinks])), (aPlaces, .inl (cI, 6, .inl fl)), (aHomes, .inl (cI, 6, .inl fh)), (aManners, .inl (cI, 6, .inl fm)), (aFree, .inl (cI, 6, .inl ff)), (pr, .inl (cI, 6, .inl pf))] sz [.ref wh, .int a, .int g] (fun w => (∃ (wt2 : Int32), ∃ (tl2 : Int32), ∃ (st2 : Int32), ∃ (du2 : Nat → Int32), ∃ (lf2 : Nat → Int32), ∃ (qu2 : Nat → Int32), ∃ (qd2 : Nat → Int32), (rng qu2 480 (0) (479)) ∧ (0 ≤ tl2.toInt ∧ tl2.toInt < 480) ∧ (0 ≤ st2.toInt ∧ st2.toInt < 480) ∧ w = [(wh, .inr (7, [.ref ct, .ref vw, .ref pr, .ref wD_, .ref wL, .ref wQ, .ref wE, .int wt2, .int tl2, .int g, .int st2])), (wD_, .inl (cI, 7, .inl du2)), (wL, .inl (cI, 480, .inl lf2)), (wQ, .inl (cI, 480, .inl qu2)), (wE, .inl (cI, 480, .inl qd2)), (ct, .inr (1, [.int cw, .int ch, .int cp, .ref aCells, .ref aPrices, .ref aFree, .ref aPlaces, .ref aHomes, .ref aManners, .ref aGone, .ref aPaid, .ref aBlinks])), (aPlaces, .inl (cI, 6, .inl fl)), (aHomes, .inl (cI, 6, .inl fh)), (aManners, .inl (cI, 6, .inl fm)), (aFree, .inl (cI, 6, .inl ff)), (pr, .inl (cI, 6, .inl pf))])) := by
  refine b_metV (cc := cX7_begin) (maxL := 4) (ret := none) (by decide) rfl (Nat.le_of_ble_eq_true rfl) ?_
  intro p e s m below meth c ls A H X hsz hP hK hT hD hA hS hl
  have S : CallFix p m c cX7_begin 4 s ([.ref wh, .int a, .int g] : List Value).toArray wsX7_begin RX7 := X.1
  have hl : lv_has ls 4 [(0, .ref wh), (1, .int a), (2, .int g)] := hl
  have iX1 := jX7_begin_X1
  have iX7 := jX7_begin_X7
  refine lv_aload_n S.1 S.2.1 dX7_begin_0 rfl (lv_at hl 0 rfl) ?_
  refine lv_iload_n S.1 S.2.1 dX7_begin_1 rfl (lv_at hl 2 rfl) ?_
  refine b_put (v := .int g) S iX7 tyX7 tyX7_ok nmX7 hK hP hD hS 0 rfl rfl 9 (by decide) (by decide +kernel) rfl rfl rfl (Nat.le_of_ble_eq_true rfl) dX7_begin_2 (fun H locs hP hD hS => ?_)
  have hP : va_P D vwCl [(wh, .inr (7, [.ref ct, .ref vw, .ref pr, .ref wD_, .ref wL, .ref wQ, .ref wE, .int wt, .int tl, .int g, .int st])), (wD_, .inl (cI, 7, .inl du)), (wL, .inl (cI, 480, .inl lf)), (wQ, .inl (cI, 480, .inl qu)), (wE, .inl (cI, 480, .inl qd)), (ct, .inr (1, [.int cw, .int ch, .int cp, .ref aCells, .ref aPrices, .ref aFree, .ref aPlaces, .ref aHomes, .ref aManners, .ref aGone, .ref aPaid, .ref aBlinks])), (aPlaces, .inl (cI, 6, .inl fl)), (aHomes, .inl (cI, 6, .inl fh)), (aManners, .inl (cI, 6, .inl fm)), (aFree, .inl (cI, 6, .inl ff)), (pr, .inl (cI, 6, .inl pf))] H := hP
  have hD : va_D A [(wh, .inr (7, [.ref ct, .ref vw, .ref pr, .ref wD_, .ref wL, .ref wQ, .ref wE, .int wt, .int tl, .int g, .int st])), (wD_, .inl (cI, 7, .inl du)), (wL, .inl (cI, 480, .inl lf)), (wQ, .inl (cI, 480, .inl qu)), (wE, .inl (cI, 480, .inl qd)), (ct, .inr (1, [.int cw, .int ch, .int cp, .ref aCells, .ref aPrices, .ref aFree, .ref aPlaces, .ref aHomes, .ref aManners, .ref aGone, .ref aPaid, .ref aBlinks])), (aPlaces, .inl (cI, 6, .inl fl)), (aHomes, .inl (cI, 6, .inl fh)), (aManners, .inl (cI, 6, .inl fm)), (aFree, .inl (cI, 6, .inl ff)), (pr, .inl (cI, 6, .inl pf))] := hD
  refine lv_aload_n S.1 S.2.1 dX7_begin_5 rfl (lv_at hl 0 rfl) ?_
  refine lv_aload_n S.1 S.2.1 dX7_begin_6 rfl (lv_at hl 0 rfl) ?_
  refine b_get (v := .int g) S iX7 hK hP 0 rfl rfl 9 (by decide) (by decide +kernel) rfl dX7_begin_7 ?_
  refine lv_bipush (v := (80)) S.1 S.2.1 dX7_begin_10 (by decide) ?_
  refine lv_imul S.1 S.2.1 dX7_begin_12 ?_
  refine lv_topi (fun x_1 ex_1 => ?_)
  have tx_1 : x_1.toInt = g.toInt * 80 := mulI (A := g.toInt) (B := 80) ex_1 rfl rfl (by  omega) (by  omega)
  refine lv_aload_n S.1 S.2.1 dX7_begin_13 rfl (lv_at hl 0 rfl) ?_
  refine b_get (v := .ref ct) S iX7 hK hP 0 rfl rfl 0 (by decide) (by decide +kernel) rfl dX7_begin_14 ?_
  refine b_get (v := .ref aPlaces) S iX1 hK hP 5 rfl rfl 6 (by decide) (by decide +kernel) rfl dX7_begin_17 ?_
  refine lv_iload_n S.1 S.2.1 dX7_begin_20 rfl (lv_at hl 1 rfl) ?_
  have hin_2 : vp_in a 6 := (in_of (n := 6) (by  omega) (by  omega))
  refine va_iald S.1 S.2.1 hK.1 hP 6 0 rfl rfl hin_2 dX7_begin_21 ?_
  refine lv_topi (fun x_3 ex_3 => ?_)
  have tx_3 := rng_get (x := x_3) (show rng fl 6 (0) (79) by assumption) hin_2 ex_3
  refine lv_iadd S.1 S.2.1 dX7_begin_22 ?_
  refine lv_topi (fun x_4 ex_4 => ?_)
  have tx_4 : x_4.toInt = x_1.toInt + (x_3.toInt) := addI (A := x_1.toInt) (B := x_3.toInt) ex_4 rfl rfl (by  omega) (by  omega)
  refine b_put (v := .int x_4) S iX7 tyX7 tyX7_ok nmX7 hK hP hD hS 0 rfl rfl 10 (by decide) (by decide +kernel) rfl rfl rfl (Nat.le_of_ble_eq_true rfl) dX7_begin_23 (fun H locs hP hD hS => ?_)
  have hP : va_P D vwCl [(wh, .inr (7, [.ref ct, .ref vw, .ref pr, .ref wD_, .ref wL, .ref wQ, .ref wE, .int wt, .int tl, .int g, .int x_4])), (wD_, .inl (cI, 7, .inl du)), (wL, .inl (cI, 480, .inl lf)), (wQ, .inl (cI, 480, .inl qu)), (wE, .inl (cI, 480, .inl qd)), (ct, .inr (1, [.int cw, .int ch, .int cp, .ref aCells, .ref aPrices, .ref aFree, .ref aPlaces, .ref aHomes, .ref aManners, .ref aGone, .ref aPaid, .ref aBlinks])), (aPlaces, .inl (cI, 6, .inl fl)), (aHomes, .inl (cI, 6, .inl fh)), (aManners, .inl (cI, 6, .inl fm)), (aFree, .inl (cI, 6, .inl ff)), (pr, .inl (cI, 6, .inl pf))] H := hP
  have hD : va_D A [(wh, .inr (7, [.ref ct, .ref vw, .ref pr, .ref wD_, .ref wL, .ref wQ, .ref wE, .int wt, .int tl, .int g, .int x_4])), (wD_, .inl (cI, 7, .inl du)), (wL, .inl (cI, 480, .inl lf)), (wQ, .inl (cI, 480, .inl qu)), (wE, .inl (cI, 480, .inl qd)), (ct, .inr (1, [.int cw, .int ch, .int cp, .ref aCells, .ref aPrices, .ref aFree, .ref aPlaces, .ref aHomes, .ref aManners, .ref aGone, .ref aPaid, .ref aBlinks])), (aPlaces, .inl (cI, 6, .inl fl)), (aHomes, .inl (cI, 6, .inl fh)), (aManners, .inl (cI, 6, .inl fm)), (aFree, .inl (cI, 6, .inl ff)), (pr, .inl (cI, 6, .inl pf))] := hD
  refine lv_iconst (v := (0)) S.1 S.2.1 dX7_begin_26 (by decide) ?_
  refine lv_istore_n (lv' := [(3, .int 0), (0, .ref wh), (1, .int a), (2, .int g)]) S.1 S.2.1 dX7_begin_27 rfl hl (by decide) rfl (fun ls hl => ?_)
  refine lp_begin1 l D cI cZ cC cS sq wh wD_ wL wQ wE ct aPlaces aHomes aManners aFree pr a g vw wt tl bd st du lf qu qd cw ch cp aCells aPrices aGone aPaid aBlinks fl fh fm ff pf hrg_qu hrg_fl hrg_fh ha hg x_4 X hK hT hA (fun i_5 du_6 hi_7 hi_8 hi_9 hi_10 H locs ls hP hD hS hl => ?_) _ (0) du (by first | with_reducible assumption | assumption | omega | decide | (rw [show Int32.toInt 0 = 0 from rfl]; omega)) (by first | with_reducible assumption | assumption | omega | decide | (rw [show Int32.toInt 0 = 0 from rfl]; omega)) (by first | with_reducible assumption | assumption | omega | decide | (rw [show Int32.toInt 0 = 0 from rfl]; omega)) (by first | with_reducible assumption | decide | (and_intros <;> first | with_reducible assumption | (intros; refine Int.le_antisymm ?_ ?_ <;> omega) | omega) | assumption | (rw [show Int32.toInt 0 = 0 from rfl]; omega)) (Nat.lt_succ_self _) H _ ls hP hD hS (lv_sub hl [0, 1, 2, 3] rfl)
  refine lv_iconst (v := (0)) S.1 S.2.1 dX7_begin_68 (by decide) ?_
  refine lv_istore_n (lv' := [(3, .int 0), (0, .ref wh), (1, .int a), (2, .int g)]) S.1 S.2.1 dX7_begin_69 rfl hl (by decide) rfl (fun ls hl => ?_)
  refine lp_begin2 l D cI cZ cC cS sq wh wD_ wL wQ wE ct aPlaces aHomes aManners aFree pr a g vw wt tl bd st du lf qu qd cw ch cp aCells aPrices aGone aPaid aBlinks fl fh fm ff pf hrg_qu hrg_fl hrg_fh ha hg x_4 X hK hT hA (fun i_11 du_12 lf_13 qd_14 hi_15 hi_16 hi_17 hi_18 H locs ls hP hD hS hl => ?_) _ (0) du_6 lf qd (by first | with_reducible assumption | assumption | omega | decide | (rw [show Int32.toInt 0 = 0 from rfl]; omega)) (by first | with_reducible assumption | assumption | omega | decide | (rw [show Int32.toInt 0 = 0 from rfl]; omega)) (by first | with_reducible assumption | assumption | omega | decide | (rw [show Int32.toInt 0 = 0 from rfl]; omega)) (by first | with_reducible assumption | decide | (and_intros <;> first | with_reducible assumption | (intros; refine Int.le_antisymm ?_ ?_ <;> omega) | omega) | assumption | (rw [show Int32.toInt 0 = 0 from rfl]; omega)) (Nat.lt_succ_self _) H _ ls hP hD hS (lv_sub hl [0, 1, 2, 3] rfl)
  refine lv_aload_n S.1 S.2.1 dX7_begin_104 rfl (lv_at hl 1 rfl) ?_
  refine lv_iconst (v := (0)) S.1 S.2.1 dX7_begin_105 (by decide) ?_
  refine b_put (v := .int 0) S iX7 tyX7 tyX7_ok nmX7 hK hP hD hS 0 rfl rfl 7 (by decide) (by decide +kernel) rfl rfl rfl (Nat.le_of_ble_eq_true rfl) dX7_begin_106 (fun H locs hP hD hS => ?_)
  have hP : va_P D vwCl [(wh, .inr (7, [.ref ct, .ref vw, .ref pr, .ref wD_, .ref wL, .ref wQ, .ref wE, .int 0, .int tl, .int g, .int x_4])), (wD_, .inl (cI, 7, .inl du_12)), (wL, .inl (cI, 480, .inl lf_13)), (wQ, .inl (cI, 480, .inl qu)), (wE, .inl (cI, 480, .inl qd_14)), (ct, .inr (1, [.int cw, .int ch, .int cp, .ref aCells, .ref aPrices, .ref aFree, .ref aPlaces, .ref aHomes, .ref aManners, .ref aGone, .ref aPaid, .ref aBlinks])), (aPlaces, .inl (cI, 6, .inl fl)), (aHomes, .inl (cI, 6, .inl fh)), (aManners, .inl (cI, 6, .inl fm)), (aFree, .inl (cI, 6, .inl ff)), (pr, .inl (cI, 6, .inl pf))] H := hP
  have hD : va_D A [(wh, .inr (7, [.ref ct, .ref vw, .ref pr, .ref wD_, .ref wL, .ref wQ, .ref wE, .int 0, .int tl, .int g, .int x_4])), (wD_, .inl (cI, 7, .inl du_12)), (wL, .inl (cI, 480, .inl lf_13)), (wQ, .inl (cI, 480, .inl qu)), (wE, .inl (cI, 480, .inl qd_14)), (ct, .inr (1, [.int cw, .int ch, .int cp, .ref aCells, .ref aPrices, .ref aFree, .ref aPlaces, .ref aHomes, .ref aManners, .ref aGone, .ref aPaid, .ref aBlinks])), (aPlaces, .inl (cI, 6, .inl fl)), (aHomes, .inl (cI, 6, .inl fh)), (aManners, .inl (cI, 6, .inl fm)), (aFree, .inl (cI, 6, .inl ff)), (pr, .inl (cI, 6, .inl pf))] := hD
  refine lv_aload_n S.1 S.2.1 dX7_begin_109 rfl (lv_at hl 1 rfl) ?_
  refine lv_iconst (v := (0)) S.1 S.2.1 dX7_begin_110 (by decide) ?_
  refine b_put (v := .int 0) S iX7 tyX7 tyX7_ok nmX7 hK hP hD hS 0 rfl rfl 8 (by decide) (by decide +kernel) rfl rfl rfl (Nat.le_of_ble_eq_true rfl) dX7_begin_111 (fun H locs hP hD hS => ?_)
  have hP : va_P D vwCl [(wh, .inr (7, [.ref ct, .ref vw, .ref pr, .ref wD_, .ref wL, .ref wQ, .ref wE, .int 0, .int 0, .int g, .int x_4])), (wD_, .inl (cI, 7, .inl du_12)), (wL, .inl (cI, 480, .inl lf_13)), (wQ, .inl (cI, 480, .inl qu)), (wE, .inl (cI, 480, .inl qd_14)), (ct, .inr (1, [.int cw, .int ch, .int cp, .ref aCells, .ref aPrices, .ref aFree, .ref aPlaces, .ref aHomes, .ref aManners, .ref aGone, .ref aPaid, .ref aBlinks])), (aPlaces, .inl (cI, 6, .inl fl)), (aHomes, .inl (cI, 6, .inl fh)), (aManners, .inl (cI, 6, .inl fm)), (aFree, .inl (cI, 6, .inl ff)), (pr, .inl (cI, 6, .inl pf))] H := hP
  have hD : va_D A [(wh, .inr (7, [.ref ct, .ref vw, .ref pr, .ref wD_, .ref wL, .ref wQ, .ref wE, .int 0, .int 0, .int g, .int x_4])), (wD_, .inl (cI, 7, .inl du_12)), (wL, .inl (cI, 480, .inl lf_13)), (wQ, .inl (cI, 480, .inl qu)), (wE, .inl (cI, 480, .inl qd_14)), (ct, .inr (1, [.int cw, .int ch, .int cp, .ref aCells, .ref aPrices, .ref aFree, .ref aPlaces, .ref aHomes, .ref aManners, .ref aGone, .ref aPaid, .ref aBlinks])), (aPlaces, .inl (cI, 6, .inl fl)), (aHomes, .inl (cI, 6, .inl fh)), (aManners, .inl (cI, 6, .inl fm)), (aFree, .inl (cI, 6, .inl ff)), (pr, .inl (cI, 6, .inl pf))] := hD
  refine lv_iconst (v := (0)) S.1 S.2.1 dX7_begin_114 (by decide) ?_
  refine lv_istore_n (lv' := [(3, .int 0), (0, .ref wh), (1, .int a), (2, .int g)]) S.1 S.2.1 dX7_begin_115 rfl hl (by decide) rfl (fun ls hl => ?_)
  refine lp_begin3 l D cI cZ cC cS sq wh wD_ wL wQ wE ct aPlaces aHomes aManners aFree pr a g vw wt tl bd st du lf qu qd cw ch cp aCells aPrices aGone aPaid aBlinks fl fh fm ff pf hrg_qu hrg_fl hrg_fh ha hg x_4 (by first | with_reducible assumption | decide | (and_intros <;> first | with_reducible assumption | (intros; refine Int.le_antisymm ?_ ?_ <;> omega) | omega) | assumption | (rw [show Int32.toInt 0 = 0 from rfl]; omega)) X hK hT hA (fun i_19 wt_20 tl_21 du_22 lf_23 qu_24 qd_25 hi_26 hi_27 hi_28 hi_29 hi_30 H locs ls hP hD hS hl => ?_) _ (0) (0) (0) du_12 lf_13 qu qd_14 (by first | with_reducible assumption | assumption | omega | decide | (rw [show Int32.toInt 0 = 0 from rfl]; omega)) (by first | with_reducible assumption | assumption | omega | decide | (rw [show Int32.toInt 0 = 0 from rfl]; omega)) (by first | with_reducible assumption | assumption | omega | decide | (rw [show Int32.toInt 0 = 0 from rfl]; omega)) (by first | with_reducible assumption | decide | (and_intros <;> first | with_reducible assumption | (intros; refine Int.le_antisymm ?_ ?_ <;> omega) | omega) | assumption | (rw [show Int32.toInt 0 = 0 from rfl]; omega)) (by first | with_reducible assumption | decide | (and_intros <;> first | with_reducible assumption | (intros; refine Int.le_antisymm ?_ ?_ <;> omega) | omega) | assumption | (rw [show Int32.toInt 0 = 0 from rfl]; omega)) (Nat.lt_succ_self _) H _ ls hP hD hS (lv_sub hl [0, 1, 2, 3] rfl)
  exact b_vret S.1 S.2.1 X.2.1 X.2.2.1 hP hD hS ⟨wt_20, tl_21, x_4, du_22, lf_23, qu_24, qd_25, (by first | with_reducible assumption | assumption | omega | decide | (rw [show Int32.toInt 0 = 0 from rfl]; omega)), (by first | with_reducible assumption | decide | (and_intros <;> first | with_reducible assumption | (intros; refine Int.le_antisymm ?_ ?_ <;> omega) | omega) | assumption | (rw [show Int32.toInt 0 = 0 from rfl]; omega)), (by first | with_reducible assumption | decide | (and_intros <;> first | with_reducible assumption | (intros; refine Int.le_antisymm ?_ ?_ <;> omega) | omega) | assumption | (rw [show Int32.toInt 0 = 0 from rfl]; omega)), rfl⟩ dX7_begin_149
