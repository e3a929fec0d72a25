set_option maxRecDepth 20000 in
theorem ggX9_layHome_X9_layFees : GoodIn wsX9_layHome wsX9_layFees := goodIn_r _ [8, 9, 10, 11, 12, 13, 14, 7, 15, 16, 17, 18, 19, 20, 21, 22, 23, 24, 25, 26, 27, 28, 29, 30, 31, 32, 33, 34, 35, 36, 37, 38, 39, 40, 41, 42, 43, 44, 45, 46, 47, 48, 49, 50, 51, 52, 53, 54, 55, 56, 57, 58, 59, 60, 61, 62, 63, 72, 73, 74, 75, 76, 77, 78, 79, 80, 81, 82, 83, 84, 85, 86, 87, 88, 89, 90, 91, 92, 93, 94, 95, 96, 97, 98, 99, 100] (by first | exact rfl | decide +kernel) (by decide +kernel)
set_option maxRecDepth 20000 in
theorem gX9_layHome_X9_layFees : GoodIn wsX9_layHome (wsV RX9 271 RX9 yX9_layFees wsX9_layFees) := goodIn_app (goodIn_r _ [4, 5, 6, 7] (by first | exact rfl | decide +kernel) (by decide +kernel)) ggX9_layHome_X9_layFees
set_option maxRecDepth 20000 in
theorem ggX9_layHome_X9_of : GoodIn wsX9_layHome wsX9_of := goodIn_r _ [59, 11, 72, 73, 74, 75, 76, 77, 78, 79, 80, 81, 82, 83, 84, 85, 86, 87, 88, 89, 90, 91, 92, 93, 94, 95, 96, 97, 98, 99, 100] (by first | exact rfl | decide +kernel) (by decide +kernel)
set_option maxRecDepth 20000 in
theorem gX9_layHome_X9_of : GoodIn wsX9_layHome (wsV RX9 239 RX9 yX9_of wsX9_of) := goodIn_app (goodIn_r _ [56, 57, 58, 7] (by first | exact rfl | decide +kernel) (by decide +kernel)) ggX9_layHome_X9_of
set_option maxRecDepth 20000 in
theorem ggX9_layHome_X9_relax : GoodIn wsX9_layHome wsX9_relax := goodIn_r _ [67, 3, 10, 1, 2, 9, 12, 13, 14, 7, 15, 11, 16, 17, 18, 19, 20, 21, 22, 23, 24, 25, 26, 27, 68, 69, 70, 71, 72, 73, 74, 75, 76, 77, 78, 79, 80, 81, 82, 83, 84, 85, 86, 87, 88, 89, 90, 91, 92, 93, 94, 95, 96, 97, 98, 99, 100] (by first | exact rfl | decide +kernel) (by decide +kernel)
set_option maxRecDepth 20000 in
theorem gX9_layHome_X9_relax : GoodIn wsX9_layHome (wsV RX9 274 RX9 yX9_relax wsX9_relax) := goodIn_app (goodIn_r _ [64, 65, 66, 7] (by first | exact rfl | decide +kernel) (by decide +kernel)) ggX9_layHome_X9_relax
set_option maxRecDepth 20000 in
theorem gdX9_bestStep_0 : decode cX9_bestStep 0 = .ok (.iload_n 1, 1) ∧ decode cX9_bestStep 1 = .ok (.bipush 80, 2) ∧ decode cX9_bestStep 3 = .ok (.iload_n 2, 1) ∧ decode cX9_bestStep 4 = .ok (.imul, 1) ∧ decode cX9_bestStep 5 = .ok (.iadd, 1) ∧ decode cX9_bestStep 6 = .ok (.istore_n 3, 1) ∧ decode cX9_bestStep 7 = .ok (.iconst 0, 1) ∧ decode cX9_bestStep 8 = .ok (.istore 4, 2) := by decide +kernel
theorem dX9_bestStep_0 : decode cX9_bestStep 0 = .ok (.iload_n 1, 1) := gdX9_bestStep_0.1
theorem dX9_bestStep_1 : decode cX9_bestStep 1 = .ok (.bipush 80, 2) := gdX9_bestStep_0.2.1
theorem dX9_bestStep_3 : decode cX9_bestStep 3 = .ok (.iload_n 2, 1) := gdX9_bestStep_0.2.2.1
theorem dX9_bestStep_4 : decode cX9_bestStep 4 = .ok (.imul, 1) := gdX9_bestStep_0.2.2.2.1
theorem dX9_bestStep_5 : decode cX9_bestStep 5 = .ok (.iadd, 1) := gdX9_bestStep_0.2.2.2.2.1
theorem dX9_bestStep_6 : decode cX9_bestStep 6 = .ok (.istore_n 3, 1) := gdX9_bestStep_0.2.2.2.2.2.1
theorem dX9_bestStep_7 : decode cX9_bestStep 7 = .ok (.iconst 0, 1) := gdX9_bestStep_0.2.2.2.2.2.2.1
theorem dX9_bestStep_8 : decode cX9_bestStep 8 = .ok (.istore 4, 2) := gdX9_bestStep_0.2.2.2.2.2.2.2
set_option maxRecDepth 20000 in
theorem gdX9_bestStep_10 : decode cX9_bestStep 10 = .ok (.iload 4, 2) ∧ decode cX9_bestStep 12 = .ok (.bipush 16, 2) ∧ decode cX9_bestStep 14 = .ok (.if_icmp .ge 133, 3) ∧ decode cX9_bestStep 17 = .ok (.aload_n 0, 1) ∧ decode cX9_bestStep 18 = .ok (.getfield 37, 3) ∧ decode cX9_bestStep 21 = .ok (.bipush 8, 2) ∧ decode cX9_bestStep 23 = .ok (.iload_n 1, 1) ∧ decode cX9_bestStep 24 = .ok (.imul, 1) := by decide +kernel
theorem dX9_bestStep_10 : decode cX9_bestStep 10 = .ok (.iload 4, 2) := gdX9_bestStep_10.1
theorem dX9_bestStep_12 : decode cX9_bestStep 12 = .ok (.bipush 16, 2) := gdX9_bestStep_10.2.1
theorem dX9_bestStep_14 : decode cX9_bestStep 14 = .ok (.if_icmp .ge 133, 3) := gdX9_bestStep_10.2.2.1
theorem dX9_bestStep_17 : decode cX9_bestStep 17 = .ok (.aload_n 0, 1) := gdX9_bestStep_10.2.2.2.1
theorem dX9_bestStep_18 : decode cX9_bestStep 18 = .ok (.getfield 37, 3) := gdX9_bestStep_10.2.2.2.2.1
theorem dX9_bestStep_21 : decode cX9_bestStep 21 = .ok (.bipush 8, 2) := gdX9_bestStep_10.2.2.2.2.2.1
theorem dX9_bestStep_23 : decode cX9_bestStep 23 = .ok (.iload_n 1, 1) := gdX9_bestStep_10.2.2.2.2.2.2.1
theorem dX9_bestStep_24 : decode cX9_bestStep 24 = .ok (.imul, 1) := gdX9_bestStep_10.2.2.2.2.2.2.2
set_option maxRecDepth 20000 in
theorem gdX9_bestStep_25 : decode cX9_bestStep 25 = .ok (.iload 4, 2) ∧ decode cX9_bestStep 27 = .ok (.bipush 8, 2) ∧ decode cX9_bestStep 29 = .ok (.irem, 1) ∧ decode cX9_bestStep 30 = .ok (.iadd, 1) ∧ decode cX9_bestStep 31 = .ok (.iaload, 1) ∧ decode cX9_bestStep 32 = .ok (.istore 5, 2) ∧ decode cX9_bestStep 34 = .ok (.iload 5, 2) ∧ decode cX9_bestStep 36 = .ok (.bipush 80, 2) := by decide +kernel
theorem dX9_bestStep_25 : decode cX9_bestStep 25 = .ok (.iload 4, 2) := gdX9_bestStep_25.1
theorem dX9_bestStep_27 : decode cX9_bestStep 27 = .ok (.bipush 8, 2) := gdX9_bestStep_25.2.1
theorem dX9_bestStep_29 : decode cX9_bestStep 29 = .ok (.irem, 1) := gdX9_bestStep_25.2.2.1
theorem dX9_bestStep_30 : decode cX9_bestStep 30 = .ok (.iadd, 1) := gdX9_bestStep_25.2.2.2.1
theorem dX9_bestStep_31 : decode cX9_bestStep 31 = .ok (.iaload, 1) := gdX9_bestStep_25.2.2.2.2.1
theorem dX9_bestStep_32 : decode cX9_bestStep 32 = .ok (.istore 5, 2) := gdX9_bestStep_25.2.2.2.2.2.1
theorem dX9_bestStep_34 : decode cX9_bestStep 34 = .ok (.iload 5, 2) := gdX9_bestStep_25.2.2.2.2.2.2.1
theorem dX9_bestStep_36 : decode cX9_bestStep 36 = .ok (.bipush 80, 2) := gdX9_bestStep_25.2.2.2.2.2.2.2
set_option maxRecDepth 20000 in
theorem gdX9_bestStep_38 : decode cX9_bestStep 38 = .ok (.iload_n 2, 1) ∧ decode cX9_bestStep 39 = .ok (.imul, 1) ∧ decode cX9_bestStep 40 = .ok (.iadd, 1) ∧ decode cX9_bestStep 41 = .ok (.iload 4, 2) ∧ decode cX9_bestStep 43 = .ok (.bipush 8, 2) ∧ decode cX9_bestStep 45 = .ok (.if_icmp .ge 7, 3) ∧ decode cX9_bestStep 48 = .ok (.iconst 0, 1) ∧ decode cX9_bestStep 49 = .ok (.goto 5, 3) := by decide +kernel
theorem dX9_bestStep_38 : decode cX9_bestStep 38 = .ok (.iload_n 2, 1) := gdX9_bestStep_38.1
theorem dX9_bestStep_39 : decode cX9_bestStep 39 = .ok (.imul, 1) := gdX9_bestStep_38.2.1
theorem dX9_bestStep_40 : decode cX9_bestStep 40 = .ok (.iadd, 1) := gdX9_bestStep_38.2.2.1
theorem dX9_bestStep_41 : decode cX9_bestStep 41 = .ok (.iload 4, 2) := gdX9_bestStep_38.2.2.2.1
theorem dX9_bestStep_43 : decode cX9_bestStep 43 = .ok (.bipush 8, 2) := gdX9_bestStep_38.2.2.2.2.1
theorem dX9_bestStep_45 : decode cX9_bestStep 45 = .ok (.if_icmp .ge 7, 3) := gdX9_bestStep_38.2.2.2.2.2.1
theorem dX9_bestStep_48 : decode cX9_bestStep 48 = .ok (.iconst 0, 1) := gdX9_bestStep_38.2.2.2.2.2.2.1
theorem dX9_bestStep_49 : decode cX9_bestStep 49 = .ok (.goto 5, 3) := gdX9_bestStep_38.2.2.2.2.2.2.2
set_option maxRecDepth 20000 in
theorem gdX9_bestStep_52 : decode cX9_bestStep 52 = .ok (.bipush 80, 2) ∧ decode cX9_bestStep 54 = .ok (.isub, 1) ∧ decode cX9_bestStep 55 = .ok (.istore 6, 2) ∧ decode cX9_bestStep 57 = .ok (.iload 5, 2) ∧ decode cX9_bestStep 59 = .ok (.ifCond .lt 82, 3) ∧ decode cX9_bestStep 62 = .ok (.iload 6, 2) ∧ decode cX9_bestStep 64 = .ok (.ifCond .lt 77, 3) ∧ decode cX9_bestStep 67 = .ok (.aload_n 0, 1) := by decide +kernel
theorem dX9_bestStep_52 : decode cX9_bestStep 52 = .ok (.bipush 80, 2) := gdX9_bestStep_52.1
theorem dX9_bestStep_54 : decode cX9_bestStep 54 = .ok (.isub, 1) := gdX9_bestStep_52.2.1
theorem dX9_bestStep_55 : decode cX9_bestStep 55 = .ok (.istore 6, 2) := gdX9_bestStep_52.2.2.1
theorem dX9_bestStep_57 : decode cX9_bestStep 57 = .ok (.iload 5, 2) := gdX9_bestStep_52.2.2.2.1
theorem dX9_bestStep_59 : decode cX9_bestStep 59 = .ok (.ifCond .lt 82, 3) := gdX9_bestStep_52.2.2.2.2.1
theorem dX9_bestStep_62 : decode cX9_bestStep 62 = .ok (.iload 6, 2) := gdX9_bestStep_52.2.2.2.2.2.1
theorem dX9_bestStep_64 : decode cX9_bestStep 64 = .ok (.ifCond .lt 77, 3) := gdX9_bestStep_52.2.2.2.2.2.2.1
theorem dX9_bestStep_67 : decode cX9_bestStep 67 = .ok (.aload_n 0, 1) := gdX9_bestStep_52.2.2.2.2.2.2.2
set_option maxRecDepth 20000 in
theorem gdX9_bestStep_68 : decode cX9_bestStep 68 = .ok (.getfield 28, 3) ∧ decode cX9_bestStep 71 = .ok (.iload 6, 2) ∧ decode cX9_bestStep 73 = .ok (.iaload, 1) ∧ decode cX9_bestStep 74 = .ok (.ldc_w 266, 3) ∧ decode cX9_bestStep 77 = .ok (.if_icmp .ge 64, 3) ∧ decode cX9_bestStep 80 = .ok (.aload_n 0, 1) ∧ decode cX9_bestStep 81 = .ok (.getfield 28, 3) ∧ decode cX9_bestStep 84 = .ok (.iload 6, 2) := by decide +kernel
theorem dX9_bestStep_68 : decode cX9_bestStep 68 = .ok (.getfield 28, 3) := gdX9_bestStep_68.1
theorem dX9_bestStep_71 : decode cX9_bestStep 71 = .ok (.iload 6, 2) := gdX9_bestStep_68.2.1
theorem dX9_bestStep_73 : decode cX9_bestStep 73 = .ok (.iaload, 1) := gdX9_bestStep_68.2.2.1
theorem dX9_bestStep_74 : decode cX9_bestStep 74 = .ok (.ldc_w 266, 3) := gdX9_bestStep_68.2.2.2.1
theorem dX9_bestStep_77 : decode cX9_bestStep 77 = .ok (.if_icmp .ge 64, 3) := gdX9_bestStep_68.2.2.2.2.1
theorem dX9_bestStep_80 : decode cX9_bestStep 80 = .ok (.aload_n 0, 1) := gdX9_bestStep_68.2.2.2.2.2.1
theorem dX9_bestStep_81 : decode cX9_bestStep 81 = .ok (.getfield 28, 3) := gdX9_bestStep_68.2.2.2.2.2.2.1
theorem dX9_bestStep_84 : decode cX9_bestStep 84 = .ok (.iload 6, 2) := gdX9_bestStep_68.2.2.2.2.2.2.2
set_option maxRecDepth 20000 in
theorem gdX9_bestStep_86 : decode cX9_bestStep 86 = .ok (.iaload, 1) ∧ decode cX9_bestStep 87 = .ok (.iload 4, 2) ∧ decode cX9_bestStep 89 = .ok (.bipush 8, 2) ∧ decode cX9_bestStep 91 = .ok (.if_icmp .ge 18, 3) ∧ decode cX9_bestStep 94 = .ok (.aload_n 0, 1) ∧ decode cX9_bestStep 95 = .ok (.getfield 34, 3) ∧ decode cX9_bestStep 98 = .ok (.bipush 8, 2) ∧ decode cX9_bestStep 100 = .ok (.iload_n 1, 1) := by decide +kernel
theorem dX9_bestStep_86 : decode cX9_bestStep 86 = .ok (.iaload, 1) := gdX9_bestStep_86.1
theorem dX9_bestStep_87 : decode cX9_bestStep 87 = .ok (.iload 4, 2) := gdX9_bestStep_86.2.1
theorem dX9_bestStep_89 : decode cX9_bestStep 89 = .ok (.bipush 8, 2) := gdX9_bestStep_86.2.2.1
theorem dX9_bestStep_91 : decode cX9_bestStep 91 = .ok (.if_icmp .ge 18, 3) := gdX9_bestStep_86.2.2.2.1
theorem dX9_bestStep_94 : decode cX9_bestStep 94 = .ok (.aload_n 0, 1) := gdX9_bestStep_86.2.2.2.2.1
theorem dX9_bestStep_95 : decode cX9_bestStep 95 = .ok (.getfield 34, 3) := gdX9_bestStep_86.2.2.2.2.2.1
theorem dX9_bestStep_98 : decode cX9_bestStep 98 = .ok (.bipush 8, 2) := gdX9_bestStep_86.2.2.2.2.2.2.1
theorem dX9_bestStep_100 : decode cX9_bestStep 100 = .ok (.iload_n 1, 1) := gdX9_bestStep_86.2.2.2.2.2.2.2
set_option maxRecDepth 20000 in
theorem gdX9_bestStep_101 : decode cX9_bestStep 101 = .ok (.imul, 1) ∧ decode cX9_bestStep 102 = .ok (.iload 4, 2) ∧ decode cX9_bestStep 104 = .ok (.iadd, 1) ∧ decode cX9_bestStep 105 = .ok (.iaload, 1) ∧ decode cX9_bestStep 106 = .ok (.goto 4, 3) ∧ decode cX9_bestStep 109 = .ok (.iconst 0, 1) ∧ decode cX9_bestStep 110 = .ok (.iadd, 1) ∧ decode cX9_bestStep 111 = .ok (.aload_n 0, 1) := by decide +kernel
theorem dX9_bestStep_101 : decode cX9_bestStep 101 = .ok (.imul, 1) := gdX9_bestStep_101.1
theorem dX9_bestStep_102 : decode cX9_bestStep 102 = .ok (.iload 4, 2) := gdX9_bestStep_101.2.1
theorem dX9_bestStep_104 : decode cX9_bestStep 104 = .ok (.iadd, 1) := gdX9_bestStep_101.2.2.1
theorem dX9_bestStep_105 : decode cX9_bestStep 105 = .ok (.iaload, 1) := gdX9_bestStep_101.2.2.2.1
theorem dX9_bestStep_106 : decode cX9_bestStep 106 = .ok (.goto 4, 3) := gdX9_bestStep_101.2.2.2.2.1
theorem dX9_bestStep_109 : decode cX9_bestStep 109 = .ok (.iconst 0, 1) := gdX9_bestStep_101.2.2.2.2.2.1
theorem dX9_bestStep_110 : decode cX9_bestStep 110 = .ok (.iadd, 1) := gdX9_bestStep_101.2.2.2.2.2.2.1
theorem dX9_bestStep_111 : decode cX9_bestStep 111 = .ok (.aload_n 0, 1) := gdX9_bestStep_101.2.2.2.2.2.2.2
set_option maxRecDepth 20000 in
theorem gdX9_bestStep_112 : decode cX9_bestStep 112 = .ok (.getfield 28, 3) ∧ decode cX9_bestStep 115 = .ok (.iload_n 3, 1) ∧ decode cX9_bestStep 116 = .ok (.iaload, 1) ∧ decode cX9_bestStep 117 = .ok (.if_icmp .ne 24, 3) ∧ decode cX9_bestStep 120 = .ok (.aload_n 0, 1) ∧ decode cX9_bestStep 121 = .ok (.getfield 31, 3) ∧ decode cX9_bestStep 124 = .ok (.iload 6, 2) ∧ decode cX9_bestStep 126 = .ok (.iaload, 1) := by decide +kernel
theorem dX9_bestStep_112 : decode cX9_bestStep 112 = .ok (.getfield 28, 3) := gdX9_bestStep_112.1
theorem dX9_bestStep_115 : decode cX9_bestStep 115 = .ok (.iload_n 3, 1) := gdX9_bestStep_112.2.1
theorem dX9_bestStep_116 : decode cX9_bestStep 116 = .ok (.iaload, 1) := gdX9_bestStep_112.2.2.1
theorem dX9_bestStep_117 : decode cX9_bestStep 117 = .ok (.if_icmp .ne 24, 3) := gdX9_bestStep_112.2.2.2.1
theorem dX9_bestStep_120 : decode cX9_bestStep 120 = .ok (.aload_n 0, 1) := gdX9_bestStep_112.2.2.2.2.1
theorem dX9_bestStep_121 : decode cX9_bestStep 121 = .ok (.getfield 31, 3) := gdX9_bestStep_112.2.2.2.2.2.1
theorem dX9_bestStep_124 : decode cX9_bestStep 124 = .ok (.iload 6, 2) := gdX9_bestStep_112.2.2.2.2.2.2.1
theorem dX9_bestStep_126 : decode cX9_bestStep 126 = .ok (.iaload, 1) := gdX9_bestStep_112.2.2.2.2.2.2.2
set_option maxRecDepth 20000 in
theorem gdX9_bestStep_127 : decode cX9_bestStep 127 = .ok (.iconst 1, 1) ∧ decode cX9_bestStep 128 = .ok (.iadd, 1) ∧ decode cX9_bestStep 129 = .ok (.aload_n 0, 1) ∧ decode cX9_bestStep 130 = .ok (.getfield 31, 3) ∧ decode cX9_bestStep 133 = .ok (.iload_n 3, 1) ∧ decode cX9_bestStep 134 = .ok (.iaload, 1) ∧ decode cX9_bestStep 135 = .ok (.if_icmp .ne 6, 3) ∧ decode cX9_bestStep 138 = .ok (.iload 4, 2) := by decide +kernel
theorem dX9_bestStep_127 : decode cX9_bestStep 127 = .ok (.iconst 1, 1) := gdX9_bestStep_127.1
theorem dX9_bestStep_128 : decode cX9_bestStep 128 = .ok (.iadd, 1) := gdX9_bestStep_127.2.1
theorem dX9_bestStep_129 : decode cX9_bestStep 129 = .ok (.aload_n 0, 1) := gdX9_bestStep_127.2.2.1
theorem dX9_bestStep_130 : decode cX9_bestStep 130 = .ok (.getfield 31, 3) := gdX9_bestStep_127.2.2.2.1
theorem dX9_bestStep_133 : decode cX9_bestStep 133 = .ok (.iload_n 3, 1) := gdX9_bestStep_127.2.2.2.2.1
theorem dX9_bestStep_134 : decode cX9_bestStep 134 = .ok (.iaload, 1) := gdX9_bestStep_127.2.2.2.2.2.1
theorem dX9_bestStep_135 : decode cX9_bestStep 135 = .ok (.if_icmp .ne 6, 3) := gdX9_bestStep_127.2.2.2.2.2.2.1
theorem dX9_bestStep_138 : decode cX9_bestStep 138 = .ok (.iload 4, 2) := gdX9_bestStep_127.2.2.2.2.2.2.2
set_option maxRecDepth 20000 in
theorem gdX9_bestStep_140 : decode cX9_bestStep 140 = .ok (.ireturn, 1) ∧ decode cX9_bestStep 141 = .ok (.iinc 4 1, 3) ∧ decode cX9_bestStep 144 = .ok (.goto (-134), 3) := by decide +kernel
theorem dX9_bestStep_140 : decode cX9_bestStep 140 = .ok (.ireturn, 1) := gdX9_bestStep_140.1
theorem dX9_bestStep_141 : decode cX9_bestStep 141 = .ok (.iinc 4 1, 3) := gdX9_bestStep_140.2.1
theorem dX9_bestStep_144 : decode cX9_bestStep 144 = .ok (.goto (-134), 3) := gdX9_bestStep_140.2.2
set_option maxRecDepth 20000 in
theorem gdX9_layHome_0 : decode cX9_layHome 0 = .ok (.aload_n 0, 1) ∧ decode cX9_layHome 1 = .ok (.iload_n 1, 1) ∧ decode cX9_layHome 2 = .ok (.invokevirtual 271, 3) ∧ decode cX9_layHome 5 = .ok (.iconst 0, 1) ∧ decode cX9_layHome 6 = .ok (.istore_n 3, 1) ∧ decode cX9_layHome 7 = .ok (.iload_n 3, 1) ∧ decode cX9_layHome 8 = .ok (.sipush 480, 3) ∧ decode cX9_layHome 11 = .ok (.if_icmp .ge 65, 3) := by decide +kernel
theorem dX9_layHome_0 : decode cX9_layHome 0 = .ok (.aload_n 0, 1) := gdX9_layHome_0.1
theorem dX9_layHome_1 : decode cX9_layHome 1 = .ok (.iload_n 1, 1) := gdX9_layHome_0.2.1
theorem dX9_layHome_2 : decode cX9_layHome 2 = .ok (.invokevirtual 271, 3) := gdX9_layHome_0.2.2.1
theorem dX9_layHome_5 : decode cX9_layHome 5 = .ok (.iconst 0, 1) := gdX9_layHome_0.2.2.2.1
theorem dX9_layHome_6 : decode cX9_layHome 6 = .ok (.istore_n 3, 1) := gdX9_layHome_0.2.2.2.2.1
theorem dX9_layHome_7 : decode cX9_layHome 7 = .ok (.iload_n 3, 1) := gdX9_layHome_0.2.2.2.2.2.1
theorem dX9_layHome_8 : decode cX9_layHome 8 = .ok (.sipush 480, 3) := gdX9_layHome_0.2.2.2.2.2.2.1
theorem dX9_layHome_11 : decode cX9_layHome 11 = .ok (.if_icmp .ge 65, 3) := gdX9_layHome_0.2.2.2.2.2.2.2
set_option maxRecDepth 20000 in
theorem gdX9_layHome_14 : decode cX9_layHome 14 = .ok (.iload_n 3, 1) ∧ decode cX9_layHome 15 = .ok (.bipush 80, 2) ∧ decode cX9_layHome 17 = .ok (.irem, 1) ∧ decode cX9_layHome 18 = .ok (.aload_n 0, 1) ∧ decode cX9_layHome 19 = .ok (.iload_n 1, 1) ∧ decode cX9_layHome 20 = .ok (.iconst 1, 1) ∧ decode cX9_layHome 21 = .ok (.invokevirtual 239, 3) ∧ decode cX9_layHome 24 = .ok (.if_icmp .ne 7, 3) := by decide +kernel
theorem dX9_layHome_14 : decode cX9_layHome 14 = .ok (.iload_n 3, 1) := gdX9_layHome_14.1
theorem dX9_layHome_15 : decode cX9_layHome 15 = .ok (.bipush 80, 2) := gdX9_layHome_14.2.1
theorem dX9_layHome_17 : decode cX9_layHome 17 = .ok (.irem, 1) := gdX9_layHome_14.2.2.1
theorem dX9_layHome_18 : decode cX9_layHome 18 = .ok (.aload_n 0, 1) := gdX9_layHome_14.2.2.2.1
theorem dX9_layHome_19 : decode cX9_layHome 19 = .ok (.iload_n 1, 1) := gdX9_layHome_14.2.2.2.2.1
theorem dX9_layHome_20 : decode cX9_layHome 20 = .ok (.iconst 1, 1) := gdX9_layHome_14.2.2.2.2.2.1
theorem dX9_layHome_21 : decode cX9_layHome 21 = .ok (.invokevirtual 239, 3) := gdX9_layHome_14.2.2.2.2.2.2.1
theorem dX9_layHome_24 : decode cX9_layHome 24 = .ok (.if_icmp .ne 7, 3) := gdX9_layHome_14.2.2.2.2.2.2.2
set_option maxRecDepth 20000 in
theorem gdX9_layHome_27 : decode cX9_layHome 27 = .ok (.iconst 1, 1) ∧ decode cX9_layHome 28 = .ok (.goto 4, 3) ∧ decode cX9_layHome 31 = .ok (.iconst 0, 1) ∧ decode cX9_layHome 32 = .ok (.istore 4, 2) ∧ decode cX9_layHome 34 = .ok (.aload_n 0, 1) ∧ decode cX9_layHome 35 = .ok (.getfield 28, 3) ∧ decode cX9_layHome 38 = .ok (.iload_n 3, 1) ∧ decode cX9_layHome 39 = .ok (.iload 4, 2) := by decide +kernel
theorem dX9_layHome_27 : decode cX9_layHome 27 = .ok (.iconst 1, 1) := gdX9_layHome_27.1
theorem dX9_layHome_28 : decode cX9_layHome 28 = .ok (.goto 4, 3) := gdX9_layHome_27.2.1
theorem dX9_layHome_31 : decode cX9_layHome 31 = .ok (.iconst 0, 1) := gdX9_layHome_27.2.2.1
theorem dX9_layHome_32 : decode cX9_layHome 32 = .ok (.istore 4, 2) := gdX9_layHome_27.2.2.2.1
theorem dX9_layHome_34 : decode cX9_layHome 34 = .ok (.aload_n 0, 1) := gdX9_layHome_27.2.2.2.2.1
theorem dX9_layHome_35 : decode cX9_layHome 35 = .ok (.getfield 28, 3) := gdX9_layHome_27.2.2.2.2.2.1
theorem dX9_layHome_38 : decode cX9_layHome 38 = .ok (.iload_n 3, 1) := gdX9_layHome_27.2.2.2.2.2.2.1
theorem dX9_layHome_39 : decode cX9_layHome 39 = .ok (.iload 4, 2) := gdX9_layHome_27.2.2.2.2.2.2.2
set_option maxRecDepth 20000 in
theorem gdX9_layHome_41 : decode cX9_layHome 41 = .ok (.ifCond .eq 7, 3) ∧ decode cX9_layHome 44 = .ok (.iconst 0, 1) ∧ decode cX9_layHome 45 = .ok (.goto 6, 3) ∧ decode cX9_layHome 48 = .ok (.ldc_w 266, 3) ∧ decode cX9_layHome 51 = .ok (.iastore, 1) ∧ decode cX9_layHome 52 = .ok (.aload_n 0, 1) ∧ decode cX9_layHome 53 = .ok (.getfield 31, 3) ∧ decode cX9_layHome 56 = .ok (.iload_n 3, 1) := by decide +kernel
theorem dX9_layHome_41 : decode cX9_layHome 41 = .ok (.ifCond .eq 7, 3) := gdX9_layHome_41.1
theorem dX9_layHome_44 : decode cX9_layHome 44 = .ok (.iconst 0, 1) := gdX9_layHome_41.2.1
theorem dX9_layHome_45 : decode cX9_layHome 45 = .ok (.goto 6, 3) := gdX9_layHome_41.2.2.1
theorem dX9_layHome_48 : decode cX9_layHome 48 = .ok (.ldc_w 266, 3) := gdX9_layHome_41.2.2.2.1
theorem dX9_layHome_51 : decode cX9_layHome 51 = .ok (.iastore, 1) := gdX9_layHome_41.2.2.2.2.1
theorem dX9_layHome_52 : decode cX9_layHome 52 = .ok (.aload_n 0, 1) := gdX9_layHome_41.2.2.2.2.2.1
theorem dX9_layHome_53 : decode cX9_layHome 53 = .ok (.getfield 31, 3) := gdX9_layHome_41.2.2.2.2.2.2.1
theorem dX9_layHome_56 : decode cX9_layHome 56 = .ok (.iload_n 3, 1) := gdX9_layHome_41.2.2.2.2.2.2.2
set_option maxRecDepth 20000 in
theorem gdX9_layHome_57 : decode cX9_layHome 57 = .ok (.iload 4, 2) ∧ decode cX9_layHome 59 = .ok (.ifCond .eq 7, 3) ∧ decode cX9_layHome 62 = .ok (.iconst 0, 1) ∧ decode cX9_layHome 63 = .ok (.goto 6, 3) ∧ decode cX9_layHome 66 = .ok (.ldc_w 266, 3) ∧ decode cX9_layHome 69 = .ok (.iastore, 1) ∧ decode cX9_layHome 70 = .ok (.iinc 3 1, 3) ∧ decode cX9_layHome 73 = .ok (.goto (-66), 3) := by decide +kernel
theorem dX9_layHome_57 : decode cX9_layHome 57 = .ok (.iload 4, 2) := gdX9_layHome_57.1
theorem dX9_layHome_59 : decode cX9_layHome 59 = .ok (.ifCond .eq 7, 3) := gdX9_layHome_57.2.1
theorem dX9_layHome_62 : decode cX9_layHome 62 = .ok (.iconst 0, 1) := gdX9_layHome_57.2.2.1
theorem dX9_layHome_63 : decode cX9_layHome 63 = .ok (.goto 6, 3) := gdX9_layHome_57.2.2.2.1
theorem dX9_layHome_66 : decode cX9_layHome 66 = .ok (.ldc_w 266, 3) := gdX9_layHome_57.2.2.2.2.1
theorem dX9_layHome_69 : decode cX9_layHome 69 = .ok (.iastore, 1) := gdX9_layHome_57.2.2.2.2.2.1
theorem dX9_layHome_70 : decode cX9_layHome 70 = .ok (.iinc 3 1, 3) := gdX9_layHome_57.2.2.2.2.2.2.1
theorem dX9_layHome_73 : decode cX9_layHome 73 = .ok (.goto (-66), 3) := gdX9_layHome_57.2.2.2.2.2.2.2
set_option maxRecDepth 20000 in
theorem gdX9_layHome_76 : decode cX9_layHome 76 = .ok (.iconst 1, 1) ∧ decode cX9_layHome 77 = .ok (.istore_n 3, 1) ∧ decode cX9_layHome 78 = .ok (.iload_n 3, 1) ∧ decode cX9_layHome 79 = .ok (.ifCond .eq 12, 3) ∧ decode cX9_layHome 82 = .ok (.aload_n 0, 1) ∧ decode cX9_layHome 83 = .ok (.iload_n 2, 1) ∧ decode cX9_layHome 84 = .ok (.invokevirtual 274, 3) ∧ decode cX9_layHome 87 = .ok (.istore_n 3, 1) := by decide +kernel
theorem dX9_layHome_76 : decode cX9_layHome 76 = .ok (.iconst 1, 1) := gdX9_layHome_76.1
theorem dX9_layHome_77 : decode cX9_layHome 77 = .ok (.istore_n 3, 1) := gdX9_layHome_76.2.1
theorem dX9_layHome_78 : decode cX9_layHome 78 = .ok (.iload_n 3, 1) := gdX9_layHome_76.2.2.1
theorem dX9_layHome_79 : decode cX9_layHome 79 = .ok (.ifCond .eq 12, 3) := gdX9_layHome_76.2.2.2.1
theorem dX9_layHome_82 : decode cX9_layHome 82 = .ok (.aload_n 0, 1) := gdX9_layHome_76.2.2.2.2.1
theorem dX9_layHome_83 : decode cX9_layHome 83 = .ok (.iload_n 2, 1) := gdX9_layHome_76.2.2.2.2.2.1
theorem dX9_layHome_84 : decode cX9_layHome 84 = .ok (.invokevirtual 274, 3) := gdX9_layHome_76.2.2.2.2.2.2.1
theorem dX9_layHome_87 : decode cX9_layHome 87 = .ok (.istore_n 3, 1) := gdX9_layHome_76.2.2.2.2.2.2.2
theorem dX9_layHome_88 : decode cX9_layHome 88 = .ok (.goto (-10), 3) := by decide +kernel
theorem dX9_layHome_91 : decode cX9_layHome 91 = .ok (.return_, 1) := by decide +kernel
theorem jX9_bestStep_X9 : ∀ w ∈ u_ws RX9 TX9 29, w ∈ wsX9_bestStep := fun w h => List.mem_cons_of_mem _ (List.mem_append_right _ h)
theorem jX9_layHome_X9 : ∀ w ∈ u_ws RX9 TX9 29, w ∈ wsX9_layHome := fun w h => List.mem_cons_of_mem _ (List.mem_append_right _ h)
theorem hdV_X9_layFees : yX9_layFees.cls = RX9 ∧ yX9_layFees.cls ≠ "java/lang/invoke/MethodHandle" ∧ yX9_layFees.cls ≠ "java/lang/invoke/VarHandle" ∧ (parseMethodDescriptor yX9_layFees.desc).map (fun d => d.parameters.length) = some 1 := by decide +kernel
theorem hdV_X9_relax : yX9_relax.cls = RX9 ∧ yX9_relax.cls ≠ "java/lang/invoke/MethodHandle" ∧ yX9_relax.cls ≠ "java/lang/invoke/VarHandle" ∧ (parseMethodDescriptor yX9_relax.desc).map (fun d => d.parameters.length) = some 1 := by decide +kernel
set_option maxHeartbeats 4000000 in
set_option maxRecDepth 100000 in
theorem lp_mlay1 {p : Program} (l : Launch) {e : Env} {s : State} {m : MethodId} {below : List Frame} {meth : Method} {c : Code} (D : va_G) (cI cZ cC cS : ClassId) (sq : Nat → Nat) (y : Nat) (y_city : Nat) (y_fee : Nat) (y_goesTo : Nat) (y_cost : Nat) (y_away : Nat) (a : Int32) (g : Int32) (m_thrown : Int32) (m_status : Int32) (y_lane : Nat) (y_many : Nat) (y_item : Nat) (y_fresh : Nat) (m_isThere : Int32) (y_tape : Nat) (m_taped : Int32) (m_latest : Int32) (m_length : Int32) (m_cursor : Int32) (m_token : Int32) (m_start : Int32) (m_till : Int32) (m_fault : Int32) (m_faultAt : Int32) (m_seen : Int32) (m_mirrors : Int32) (y_priceWas : Nat) (y_isKept : Nat) (y_kept : Nat) (y_trace : Nat) (m_traced : Int32) (cy : Nat → Int32) (fe : Nat → Int32) (go : Nat → Int32) (co : Nat → Int32) (aw : Nat → Int32) (hpd_cy : prd cyK 192 cy) (hrg_fe : rng fe 640 (0) (400)) (hrg_go : rng go 640 (-1) (79)) (ha : 0 ≤ a.toInt ∧ a.toInt < 6) (hg : 0 ≤ g.toInt ∧ g.toInt ≤ 5) (hsm : -1 ≤ m_seen.toInt ∧ m_seen.toInt < 80 ∧ 0 ≤ m_mirrors.toInt ∧ m_mirrors.toInt ≤ 2) (sn1 : Int32) (mr1 : Int32) (fe1 : Nat → Int32) (go1 : Nat → Int32) (hsm1 : -1 ≤ sn1.toInt ∧ sn1.toInt < 80 ∧ 0 ≤ mr1.toInt ∧ mr1.toInt ≤ 2) {A : Nat → Prop} (X : bX p s m meth c cX9_layHome 5 wsX9_layHome yX9_layHome none [.ref y, .int a, .int g]) (hK : kW D (tyW cI cZ cC cS) sq s) (hT : sT sq A s s.heap) (hA : ∀ q, s.heap.size ≤ q → A q) (K : ∀ (i : Int32) (co1 : Nat → Int32) (aw1 : Nat → Int32), (prd cyK 192 cy) → (rng fe1 640 (0) (400)) → (rng go1 640 (-1) (79)) → (0 ≤ i.toInt ∧ i.toInt ≤ 480) → (LB0 co1 aw1 i.toInt) → (480 ≤ i.toInt) → ∀ (H : Heap) (locs : List Loc) (ls : Array Slot), va_P D vwCl [(y, .inr (9, [.int m_thrown, .int m_status, .ref y_lane, .ref y_many, .ref y_item, .ref y_city, .ref y_fresh, .int m_isThere, .ref y_tape, .int m_taped, .int m_latest, .int m_length, .int m_cursor, .int m_token, .int m_start, .int m_till, .int m_fault, .int m_faultAt, .int sn1, .int mr1, .ref y_cost, .ref y_away, .ref y_fee, .ref y_goesTo, .ref y_priceWas, .ref y_isKept, .ref y_kept, .ref y_trace, .int m_traced])), (y_city, .inl (cI, 192, .inl cy)), (y_fee, .inl (cI, 640, .inl fe1)), (y_goesTo, .inl (cI, 640, .inl go1)), (y_cost, .inl (cI, 480, .inl co1)), (y_away, .inl (cI, 480, .inl aw1))] H → va_D A [(y, .inr (9, [.int m_thrown, .int m_status, .ref y_lane, .ref y_many, .ref y_item, .ref y_city, .ref y_fresh, .int m_isThere, .ref y_tape, .int m_taped, .int m_latest, .int m_length, .int m_cursor, .int m_token, .int m_start, .int m_till, .int m_fault, .int m_faultAt, .int sn1, .int mr1, .ref y_cost, .ref y_away, .ref y_fee, .ref y_goesTo, .ref y_priceWas, .ref y_isKept, .ref y_kept, .ref y_trace, .int m_traced])), (y_city, .inl (cI, 192, .inl cy)), (y_fee, .inl (cI, 640, .inl fe1)), (y_goesTo, .inl (cI, 640, .inl go1)), (y_cost, .inl (cI, 480, .inl co1)), (y_away, .inl (cI, 480, .inl aw1))] → va_S A s.heap H locs → lv_has ls 5 [(3, .int i), (0, .ref y), (1, .int a), (2, .int g)] → W p l e (rmW 6 240 0 0) s m ([.ref y, .int a, .int g] : List Value).toArray below meth c H locs 0 0 (MQ below (va_Qv (fun w => (∃ (m_seen2 : Int32), ∃ (m_mirrors2 : Int32), ∃ (fe2 : Nat → Int32), ∃ (go2 : Nat → Int32), ∃ (co2 : Nat → Int32), ∃ (aw2 : Nat → Int32), (rng fe2 640 (0) (400)) ∧ (rng go2 640 (-1) (79)) ∧ (-1 ≤ m_seen2.toInt ∧ m_seen2.toInt < 80 ∧ 0 ≤ m_mirrors2.toInt ∧ m_mirrors2.toInt ≤ 2) ∧ (LB co2 aw2 fe2 go2 cy g.toInt) ∧ (FXr fe2 go2 cy co2 aw2 (80 * (g.toInt + 1)) 0) ∧ w = [(y, .inr (9, [.int m_thrown, .int m_status, .ref y_lane, .ref y_many, .ref y_item, .ref y_city, .ref y_fresh, .int m_isThere, .ref y_tape, .int m_taped, .int m_latest, .int m_length, .int m_cursor, .int m_token, .int m_start, .int m_till, .int m_fault, .int m_faultAt, .int m_seen2, .int m_mirrors2, .ref y_cost, .ref y_away, .ref y_fee, .ref y_goesTo, .ref y_priceWas, .ref y_isKept, .ref y_kept, .ref y_trace, .int m_traced])), (y_city, .inl (cI, 192, .inl cy)), (y_fee, .inl (cI, 640, .inl fe2)), (y_goesTo, .inl (cI, 640, .inl go2)), (y_cost, .inl (cI, 480, .inl co2)), (y_away, .inl (cI, 480, .inl aw2))])) (wD D A) A) ([.ref y, .int a, .int g] : List Value).toArray s 0 0 A) (F0 m 76 ls [])) : ∀ (mN : Nat) (i : Int32) (co1 : Nat → Int32) (aw1 : Nat → Int32), (prd cyK 192 cy) → (rng fe1 640 (0) (400)) → (rng go1 640 (-1) (79)) → (0 ≤ i.toInt ∧ i.toInt ≤ 480) → (LB0 co1 aw1 i.toInt) → ((480 - i.toInt).toNat < mN) → ∀ (H : Heap) (locs : List Loc) (ls : Array Slot), va_P D vwCl [(y, .inr (9, [.int m_thrown, .int m_status, .ref y_lane, .ref y_many, .ref y_item, .ref y_city, .ref y_fresh, .int m_isThere, .ref y_tape, .int m_taped, .int m_latest, .int m_length, .int m_cursor, .int m_token, .int m_start, .int m_till, .int m_fault, .int m_faultAt, .int sn1, .int mr1, .ref y_cost, .ref y_away, .ref y_fee, .ref y_goesTo, .ref y_priceWas, .ref y_isKept, .ref y_kept, .ref y_trace, .int m_traced])), (y_city, .inl (cI, 192, .inl cy)), (y_fee, .inl (cI, 640, .inl fe1)), (y_goesTo, .inl (cI, 640, .inl go1)), (y_cost, .inl (cI, 480, .inl co1)), (y_away, .inl (cI, 480, .inl aw1))] H → va_D A [(y, .inr (9, [.int m_thrown, .int m_status, .ref y_lane, .ref y_many, .ref y_item, .ref y_city, .ref y_fresh, .int m_isThere, .ref y_tape, .int m_taped, .int m_latest, .int m_length, .int m_cursor, .int m_token, .int m_start, .int m_till, .int m_fault, .int m_faultAt, .int sn1, .int mr1, .ref y_cost, .ref y_away, .ref y_fee, .ref y_goesTo, .ref y_priceWas, .ref y_isKept, .ref y_kept, .ref y_trace, .int m_traced])), (y_city, .inl (cI, 192, .inl cy)), (y_fee, .inl (cI, 640, .inl fe1)), (y_goesTo, .inl (cI, 640, .inl go1)), (y_cost, .inl (cI, 480, .inl co1)), (y_away, .inl (cI, 480, .inl aw1))] → va_S A s.heap H locs → lv_has ls 5 [(3, .int i), (0, .ref y), (1, .int a), (2, .int g)] → W p l e (rmW 6 240 0 0) s m ([.ref y, .int a, .int g] : List Value).toArray below meth c H locs 0 0 (MQ below (va_Qv (fun w => (∃ (m_seen2 : Int32), ∃ (m_mirrors2 : Int32), ∃ (fe2 : Nat → Int32), ∃ (go2 : Nat → Int32), ∃ (co2 : Nat → Int32), ∃ (aw2 : Nat → Int32), (rng fe2 640 (0) (400)) ∧ (rng go2 640 (-1) (79)) ∧ (-1 ≤ m_seen2.toInt ∧ m_seen2.toInt < 80 ∧ 0 ≤ m_mirrors2.toInt ∧ m_mirrors2.toInt ≤ 2) ∧ (LB co2 aw2 fe2 go2 cy g.toInt) ∧ (FXr fe2 go2 cy co2 aw2 (80 * (g.toInt + 1)) 0) ∧ w = [(y, .inr (9, [.int m_thrown, .int m_status, .ref y_lane, .ref y_many, .ref y_item, .ref y_city, .ref y_fresh, .int m_isThere, .ref y_tape, .int m_taped, .int m_latest, .int m_length, .int m_cursor, .int m_token, .int m_start, .int m_till, .int m_fault, .int m_faultAt, .int m_seen2, .int m_mirrors2, .ref y_cost, .ref y_away, .ref y_fee, .ref y_goesTo, .ref y_priceWas, .ref y_isKept, .ref y_kept, .ref y_trace, .int m_traced])), (y_city, .inl (cI, 192, .inl cy)), (y_fee, .inl (cI, 640, .inl fe2)), (y_goesTo, .inl (cI, 640, .inl go2)), (y_cost, .inl (cI, 480, .inl co2)), (y_away, .inl (cI, 480, .inl aw2))])) (wD D A) A) ([.ref y, .int a, .int g] : List Value).toArray s 0 0 A) (F0 m 7 ls []) := by
  have S : CallFix p m c cX9_layHome 5 s ([.ref y, .int a, .int g] : List Value).toArray wsX9_layHome RX9 := X.1
  have iX9 := jX9_layHome_X9
  intro mN
  induction mN with
  | zero => intro i co1 aw1 hpd_cy hrg_fe1 hrg_go1 hi hlb0 hm; exact absurd hm (Nat.not_lt_zero _)
  | succ mN ih =>
    intro i co1 aw1 hpd_cy hrg_fe1 hrg_go1 hi hlb0 hm H locs ls hP hD hS hl
    refine lv_iload_n S.1 S.2.1 dX9_layHome_7 rfl (lv_at hl 0 rfl) ?_
    refine lv_sipush (v := (480)) S.1 S.2.1 dX9_layHome_8 (by decide) ?_
    refine lv_icmp_ge (tgt := 76) S.1 S.2.1 dX9_layHome_11 (by decide) (fun c_101 => ?_) (fun c_101 => ?_)
    · rw [le2 (a := 480) (b := i) (A := 480) (B := i.toInt) rfl rfl] at c_101
      exact K i co1 aw1 (by first | with_reducible assumption | assumption | omega | decide | (rw [show Int32.toInt 0 = 0 from rfl]; omega)) (by first | with_reducible assumption | assumption | omega | decide | (rw [show Int32.toInt 0 = 0 from rfl]; omega)) (by first | with_reducible assumption | assumption | omega | decide | (rw [show Int32.toInt 0 = 0 from rfl]; omega)) (by first | with_reducible assumption | decide | (and_intros <;> first | with_reducible assumption | (intros; refine Int.le_antisymm ?_ ?_ <;> omega) | omega) | assumption | (rw [show Int32.toInt 0 = 0 from rfl]; omega)) (by first | assumption | (rw [← uc, ← ua]; exact LB0_ext hlb0 (by first | (and_intros <;> first | with_reducible assumption | (refine Int.le_antisymm ?_ ?_ <;> omega) | omega) | omega) rfl (by first | (and_intros <;> first | with_reducible assumption | (refine Int.le_antisymm ?_ ?_ <;> omega) | omega) | omega) (by decide))) (by first | with_reducible assumption | decide | (and_intros <;> first | with_reducible assumption | (intros; refine Int.le_antisymm ?_ ?_ <;> omega) | omega) | assumption | (rw [show Int32.toInt 0 = 0 from rfl]; omega)) H _ ls hP hD hS (lv_sub hl [0, 1, 2, 3] rfl)
    · rw [le2 (a := 480) (b := i) (A := 480) (B := i.toInt) rfl rfl] at c_101
      refine lv_iload_n S.1 S.2.1 dX9_layHome_14 rfl (lv_at hl 0 rfl) ?_
      refine lv_bipush (v := (80)) S.1 S.2.1 dX9_layHome_15 (by decide) ?_
      refine lv_irem S.1 S.2.1 dX9_layHome_17 (by decide) ?_
      refine lv_topi (fun x_102 ex_102 => ?_)
      have tx_102 : x_102.toInt = i.toInt % 80 := remI (A := i.toInt) (B := 80) ex_102 rfl rfl (by  omega) (by decide)
      refine lv_aload_n S.1 S.2.1 dX9_layHome_18 rfl (lv_at hl 1 rfl) ?_
      refine lv_iload_n S.1 S.2.1 dX9_layHome_19 rfl (lv_at hl 2 rfl) ?_
      refine lv_iconst (v := (1)) S.1 S.2.1 dX9_layHome_20 (by decide) ?_
      refine b_ai (wr := [(y_fee, .inl (cI, 640, .inl fe1)), (y_goesTo, .inl (cI, 640, .inl go1)), (y_cost, .inl (cI, 480, .inl co1)), (y_away, .inl (cI, 480, .inl aw1))]) (b_runV (q0 := 0) (ci := 9) (As := [.int a, .int 1]) (s_X9_of l D cI cZ cC cS sq H.size y y_city a (1) m_thrown m_status y_lane y_many y_item y_fresh m_isThere y_tape m_taped m_latest m_length m_cursor m_token m_start m_till m_fault m_faultAt sn1 mr1 y_cost y_away y_fee y_goesTo y_priceWas y_isKept y_kept y_trace m_traced cy (by first | with_reducible assumption | assumption | omega | decide | (rw [show Int32.toInt 0 = 0 from rfl]; omega)) (by first | with_reducible assumption | decide | (and_intros <;> first | with_reducible assumption | (intros; refine Int.le_antisymm ?_ ?_ <;> omega) | omega) | assumption | (rw [show Int32.toInt 0 = 0 from rfl]; omega)) (by first | with_reducible assumption | decide | (and_intros <;> first | with_reducible assumption | (intros; refine Int.le_antisymm ?_ ?_ <;> omega) | omega) | assumption | (rw [show Int32.toInt 0 = 0 from rfl]; omega))) S gX9_layHome_X9_of rfl hdV_X9_of ⟨Nat.le_of_ble_eq_true rfl, Nat.le_of_ble_eq_true rfl⟩ ⟨Nat.le_of_ble_eq_true rfl, Nat.le_of_ble_eq_true rfl⟩ hK hT hS hA hP hD rfl rfl [0, 1] rfl (by decide) rfl hl.1 rfl (Nat.le_of_ble_eq_true rfl) dX9_layHome_21) hP hD hS hA [0, 1] [2, 3, 4, 5] rfl rfl (by decide) (by decide) (fun r_103 w_104 H locs hw_105 hP hD hS => ?_)
      obtain ⟨hf_106, hf_107, rfl⟩ := hw_105
      have hf_106 : (((1) : Int) = 0 ∨ ((1) : Int) = 1) → 0 ≤ r_103.toInt ∧ r_103.toInt < 80 := hf_106
      have hf_107 : r_103 = cy (96 + 4 * a.toInt + ((1) : Int)).toNat := hf_107
      have hP : va_P D vwCl [(y_fee, .inl (cI, 640, .inl fe1)), (y_goesTo, .inl (cI, 640, .inl go1)), (y_cost, .inl (cI, 480, .inl co1)), (y_away, .inl (cI, 480, .inl aw1)), (y, .inr (9, [.int m_thrown, .int m_status, .ref y_lane, .ref y_many, .ref y_item, .ref y_city, .ref y_fresh, .int m_isThere, .ref y_tape, .int m_taped, .int m_latest, .int m_length, .int m_cursor, .int m_token, .int m_start, .int m_till, .int m_fault, .int m_faultAt, .int sn1, .int mr1, .ref y_cost, .ref y_away, .ref y_fee, .ref y_goesTo, .ref y_priceWas, .ref y_isKept, .ref y_kept, .ref y_trace, .int m_traced])), (y_city, .inl (cI, 192, .inl cy))] H := hP
      have hD : va_D A [(y_fee, .inl (cI, 640, .inl fe1)), (y_goesTo, .inl (cI, 640, .inl go1)), (y_cost, .inl (cI, 480, .inl co1)), (y_away, .inl (cI, 480, .inl aw1)), (y, .inr (9, [.int m_thrown, .int m_status, .ref y_lane, .ref y_many, .ref y_item, .ref y_city, .ref y_fresh, .int m_isThere, .ref y_tape, .int m_taped, .int m_latest, .int m_length, .int m_cursor, .int m_token, .int m_start, .int m_till, .int m_fault, .int m_faultAt, .int sn1, .int mr1, .ref y_cost, .ref y_away, .ref y_fee, .ref y_goesTo, .ref y_priceWas, .ref y_isKept, .ref y_kept, .ref y_trace, .int m_traced])), (y_city, .inl (cI, 192, .inl cy))] := hD
      refine lv_icmp_ne (tgt := 31) S.1 S.2.1 dX9_layHome_24 (by decide) (fun c_108 => ?_) (fun c_108 => ?_)
      · rw [eq2 (a := x_102) (b := r_103) (A := x_102.toInt) (B := r_103.toInt) rfl rfl] at c_108
        refine lv_iconst (v := (0)) S.1 S.2.1 dX9_layHome_31 (by decide) ?_
        refine lv_istore (lv' := [(4, .int 0), (3, .int i), (0, .ref y), (1, .int a), (2, .int g)]) S.1 S.2.1 dX9_layHome_32 hl (by decide) rfl (fun ls hl => ?_)
        refine lv_aload_n S.1 S.2.1 dX9_layHome_34 rfl (lv_at hl 2 rfl) ?_
        refine b_get (v := .ref y_cost) S iX9 hK hP 4 rfl rfl 20 (by decide) (by decide +kernel) rfl dX9_layHome_35 ?_
        refine lv_iload_n S.1 S.2.1 dX9_layHome_38 rfl (lv_at hl 1 rfl) ?_
        refine lv_iload S.1 S.2.1 dX9_layHome_39 (lv_at hl 0 rfl) ?_
        refine lv_if_eq (tgt := 48) S.1 S.2.1 dX9_layHome_41 (by decide) (fun c_109 => ?_) (fun c_109 => absurd c_109 (by decide))
        refine lv_ldcw (v := (268435456)) S.1 S.2.1 S.2.2.2.1 (S.2.2.2.2 (.constant RX9 266 (268435456)) (by decide +kernel)) dX9_layHome_48 ?_
        refine va_iast S.1 S.2.1 hK.1 hP hD hS 2 0 rfl rfl (in_of (n := 480) (by  omega) (by  omega)) dX9_layHome_51 (fun H locs hP hD hS => ?_)
        obtain ⟨f_110, hf_110⟩ : ∃ g, (upd co1 i.toNatClampNeg (268435456)) = g := ⟨_, rfl⟩
        have uc : upd co1 (i).toNatClampNeg 268435456 = f_110 := hf_110
        have hP : va_P D vwCl [(y_fee, .inl (cI, 640, .inl fe1)), (y_goesTo, .inl (cI, 640, .inl go1)), (y_cost, .inl (cI, 480, .inl (upd co1 i.toNatClampNeg (268435456)))), (y_away, .inl (cI, 480, .inl aw1)), (y, .inr (9, [.int m_thrown, .int m_status, .ref y_lane, .ref y_many, .ref y_item, .ref y_city, .ref y_fresh, .int m_isThere, .ref y_tape, .int m_taped, .int m_latest, .int m_length, .int m_cursor, .int m_token, .int m_start, .int m_till, .int m_fault, .int m_faultAt, .int sn1, .int mr1, .ref y_cost, .ref y_away, .ref y_fee, .ref y_goesTo, .ref y_priceWas, .ref y_isKept, .ref y_kept, .ref y_trace, .int m_traced])), (y_city, .inl (cI, 192, .inl cy))] H := hP
        have hD : va_D A [(y_fee, .inl (cI, 640, .inl fe1)), (y_goesTo, .inl (cI, 640, .inl go1)), (y_cost, .inl (cI, 480, .inl (upd co1 i.toNatClampNeg (268435456)))), (y_away, .inl (cI, 480, .inl aw1)), (y, .inr (9, [.int m_thrown, .int m_status, .ref y_lane, .ref y_many, .ref y_item, .ref y_city, .ref y_fresh, .int m_isThere, .ref y_tape, .int m_taped, .int m_latest, .int m_length, .int m_cursor, .int m_token, .int m_start, .int m_till, .int m_fault, .int m_faultAt, .int sn1, .int mr1, .ref y_cost, .ref y_away, .ref y_fee, .ref y_goesTo, .ref y_priceWas, .ref y_isKept, .ref y_kept, .ref y_trace, .int m_traced])), (y_city, .inl (cI, 192, .inl cy))] := hD
        rw [hf_110] at hP hD
        refine lv_aload_n S.1 S.2.1 dX9_layHome_52 rfl (lv_at hl 2 rfl) ?_
        refine b_get (v := .ref y_away) S iX9 hK hP 4 rfl rfl 21 (by decide) (by decide +kernel) rfl dX9_layHome_53 ?_
        refine lv_iload_n S.1 S.2.1 dX9_layHome_56 rfl (lv_at hl 1 rfl) ?_
        refine lv_iload S.1 S.2.1 dX9_layHome_57 (lv_at hl 0 rfl) ?_
        refine lv_if_eq (tgt := 66) S.1 S.2.1 dX9_layHome_59 (by decide) (fun c_111 => ?_) (fun c_111 => absurd c_111 (by decide))
        refine lv_ldcw (v := (268435456)) S.1 S.2.1 S.2.2.2.1 (S.2.2.2.2 (.constant RX9 266 (268435456)) (by decide +kernel)) dX9_layHome_66 ?_
        refine va_iast S.1 S.2.1 hK.1 hP hD hS 3 0 rfl rfl (in_of (n := 480) (by  omega) (by  omega)) dX9_layHome_69 (fun H locs hP hD hS => ?_)
        obtain ⟨f_112, hf_112⟩ : ∃ g, (upd aw1 i.toNatClampNeg (268435456)) = g := ⟨_, rfl⟩
        have ua : upd aw1 (i).toNatClampNeg 268435456 = f_112 := hf_112
        have hP : va_P D vwCl [(y_fee, .inl (cI, 640, .inl fe1)), (y_goesTo, .inl (cI, 640, .inl go1)), (y_cost, .inl (cI, 480, .inl f_110)), (y_away, .inl (cI, 480, .inl (upd aw1 i.toNatClampNeg (268435456)))), (y, .inr (9, [.int m_thrown, .int m_status, .ref y_lane, .ref y_many, .ref y_item, .ref y_city, .ref y_fresh, .int m_isThere, .ref y_tape, .int m_taped, .int m_latest, .int m_length, .int m_cursor, .int m_token, .int m_start, .int m_till, .int m_fault, .int m_faultAt, .int sn1, .int mr1, .ref y_cost, .ref y_away, .ref y_fee, .ref y_goesTo, .ref y_priceWas, .ref y_isKept, .ref y_kept, .ref y_trace, .int m_traced])), (y_city, .inl (cI, 192, .inl cy))] H := hP
        have hD : va_D A [(y_fee, .inl (cI, 640, .inl fe1)), (y_goesTo, .inl (cI, 640, .inl go1)), (y_cost, .inl (cI, 480, .inl f_110)), (y_away, .inl (cI, 480, .inl (upd aw1 i.toNatClampNeg (268435456)))), (y, .inr (9, [.int m_thrown, .int m_status, .ref y_lane, .ref y_many, .ref y_item, .ref y_city, .ref y_fresh, .int m_isThere, .ref y_tape, .int m_taped, .int m_latest, .int m_length, .int m_cursor, .int m_token, .int m_start, .int m_till, .int m_fault, .int m_faultAt, .int sn1, .int mr1, .ref y_cost, .ref y_away, .ref y_fee, .ref y_goesTo, .ref y_priceWas, .ref y_isKept, .ref y_kept, .ref y_trace, .int m_traced])), (y_city, .inl (cI, 192, .inl cy))] := hD
        rw [hf_112] at hP hD
        obtain ⟨x_113, ex_113⟩ : ∃ y : Int32, y = i + Int32.ofInt (1) := ⟨_, rfl⟩
        refine lv_iinc (v := x_113) (lv' := [(3, .int x_113), (4, .int 0), (0, .ref y), (1, .int a), (2, .int g)]) S.1 S.2.1 dX9_layHome_70 hl (k := 1) rfl ex_113.symm (by decide) rfl (fun ls hl => ?_)
        have tx_113 : x_113.toInt = i.toInt + (1) := addI (A := i.toInt) (B := 1) ex_113 rfl rfl (by  omega) (by  omega)
        refine lv_goto (tgt := 7) S.1 S.2.1 dX9_layHome_73 (by decide) ?_
        have hP := hP.sub (ws' := [(y, .inr (9, [.int m_thrown, .int m_status, .ref y_lane, .ref y_many, .ref y_item, .ref y_city, .ref y_fresh, .int m_isThere, .ref y_tape, .int m_taped, .int m_latest, .int m_length, .int m_cursor, .int m_token, .int m_start, .int m_till, .int m_fault, .int m_faultAt, .int sn1, .int mr1, .ref y_cost, .ref y_away, .ref y_fee, .ref y_goesTo, .ref y_priceWas, .ref y_isKept, .ref y_kept, .ref y_trace, .int m_traced])), (y_city, .inl (cI, 192, .inl cy)), (y_fee, .inl (cI, 640, .inl fe1)), (y_goesTo, .inl (cI, 640, .inl go1)), (y_cost, .inl (cI, 480, .inl f_110)), (y_away, .inl (cI, 480, .inl f_112))]) [4, 5, 0, 1, 2, 3] rfl
        have hD := hD.sub (ws' := [(y, .inr (9, [.int m_thrown, .int m_status, .ref y_lane, .ref y_many, .ref y_item, .ref y_city, .ref y_fresh, .int m_isThere, .ref y_tape, .int m_taped, .int m_latest, .int m_length, .int m_cursor, .int m_token, .int m_start, .int m_till, .int m_fault, .int m_faultAt, .int sn1, .int mr1, .ref y_cost, .ref y_away, .ref y_fee, .ref y_goesTo, .ref y_priceWas, .ref y_isKept, .ref y_kept, .ref y_trace, .int m_traced])), (y_city, .inl (cI, 192, .inl cy)), (y_fee, .inl (cI, 640, .inl fe1)), (y_goesTo, .inl (cI, 640, .inl go1)), (y_cost, .inl (cI, 480, .inl f_110)), (y_away, .inl (cI, 480, .inl f_112))]) [4, 5, 0, 1, 2, 3] (by decide) rfl
        exact ih x_113 f_110 f_112 (by first | with_reducible assumption | assumption | omega | decide | (rw [show Int32.toInt 0 = 0 from rfl]; omega)) (by first | with_reducible assumption | assumption | omega | decide | (rw [show Int32.toInt 0 = 0 from rfl]; omega)) (by first | with_reducible assumption | assumption | omega | decide | (rw [show Int32.toInt 0 = 0 from rfl]; omega)) (by first | with_reducible assumption | decide | (and_intros <;> first | with_reducible assumption | (intros; refine Int.le_antisymm ?_ ?_ <;> omega) | omega) | assumption | (rw [show Int32.toInt 0 = 0 from rfl]; omega)) (by first | assumption | (rw [← uc, ← ua]; exact LB0_ext hlb0 (by first | (and_intros <;> first | with_reducible assumption | (refine Int.le_antisymm ?_ ?_ <;> omega) | omega) | omega) rfl (by first | (and_intros <;> first | with_reducible assumption | (refine Int.le_antisymm ?_ ?_ <;> omega) | omega) | omega) (by decide))) (by first | omega | (have q1 := LB_mu hLB; first | omega | (rw [show Int32.toInt 0 = 0 from rfl]; omega) | (rw [show Int32.toInt 1 = 1 from rfl]; omega))) H _ ls hP hD hS (lv_sub hl [0, 2, 3, 4] rfl)
      · rw [eq2 (a := x_102) (b := r_103) (A := x_102.toInt) (B := r_103.toInt) rfl rfl] at c_108
        refine lv_iconst (v := (1)) S.1 S.2.1 dX9_layHome_27 (by decide) ?_
        refine lv_goto (tgt := 32) S.1 S.2.1 dX9_layHome_28 (by decide) ?_
        refine lv_istore (lv' := [(4, .int 1), (3, .int i), (0, .ref y), (1, .int a), (2, .int g)]) S.1 S.2.1 dX9_layHome_32 hl (by decide) rfl (fun ls hl => ?_)
        refine lv_aload_n S.1 S.2.1 dX9_layHome_34 rfl (lv_at hl 2 rfl) ?_
        refine b_get (v := .ref y_cost) S iX9 hK hP 4 rfl rfl 20 (by decide) (by decide +kernel) rfl dX9_layHome_35 ?_
        refine lv_iload_n S.1 S.2.1 dX9_layHome_38 rfl (lv_at hl 1 rfl) ?_
        refine lv_iload S.1 S.2.1 dX9_layHome_39 (lv_at hl 0 rfl) ?_
        refine lv_if_eq (tgt := 48) S.1 S.2.1 dX9_layHome_41 (by decide) (fun c_114 => absurd c_114 (by decide)) (fun c_114 => ?_)
        refine lv_iconst (v := (0)) S.1 S.2.1 dX9_layHome_44 (by decide) ?_
        refine lv_goto (tgt := 51) S.1 S.2.1 dX9_layHome_45 (by decide) ?_
        refine va_iast S.1 S.2.1 hK.1 hP hD hS 2 0 rfl rfl (in_of (n := 480) (by  omega) (by  omega)) dX9_layHome_51 (fun H locs hP hD hS => ?_)
        obtain ⟨f_115, hf_115⟩ : ∃ g, (upd co1 i.toNatClampNeg (0)) = g := ⟨_, rfl⟩
        have uc : upd co1 (i).toNatClampNeg 0 = f_115 := hf_115
        have hP : va_P D vwCl [(y_fee, .inl (cI, 640, .inl fe1)), (y_goesTo, .inl (cI, 640, .inl go1)), (y_cost, .inl (cI, 480, .inl (upd co1 i.toNatClampNeg (0)))), (y_away, .inl (cI, 480, .inl aw1)), (y, .inr (9, [.int m_thrown, .int m_status, .ref y_lane, .ref y_many, .ref y_item, .ref y_city, .ref y_fresh, .int m_isThere, .ref y_tape, .int m_taped, .int m_latest, .int m_length, .int m_cursor, .int m_token, .int m_start, .int m_till, .int m_fault, .int m_faultAt, .int sn1, .int mr1, .ref y_cost, .ref y_away, .ref y_fee, .ref y_goesTo, .ref y_priceWas, .ref y_isKept, .ref y_kept, .ref y_trace, .int m_traced])), (y_city, .inl (cI, 192, .inl cy))] H := hP
        have hD : va_D A [(y_fee, .inl (cI, 640, .inl fe1)), (y_goesTo, .inl (cI, 640, .inl go1)), (y_cost, .inl (cI, 480, .inl (upd co1 i.toNatClampNeg (0)))), (y_away, .inl (cI, 480, .inl aw1)), (y, .inr (9, [.int m_thrown, .int m_status, .ref y_lane, .ref y_many, .ref y_item, .ref y_city, .ref y_fresh, .int m_isThere, .ref y_tape, .int m_taped, .int m_latest, .int m_length, .int m_cursor, .int m_token, .int m_start, .int m_till, .int m_fault, .int m_faultAt, .int sn1, .int mr1, .ref y_cost, .ref y_away, .ref y_fee, .ref y_goesTo, .ref y_priceWas, .ref y_isKept, .ref y_kept, .ref y_trace, .int m_traced])), (y_city, .inl (cI, 192, .inl cy))] := hD
        rw [hf_115] at hP hD
        refine lv_aload_n S.1 S.2.1 dX9_layHome_52 rfl (lv_at hl 2 rfl) ?_
        refine b_get (v := .ref y_away) S iX9 hK hP 4 rfl rfl 21 (by decide) (by decide +kernel) rfl dX9_layHome_53 ?_
        refine lv_iload_n S.1 S.2.1 dX9_layHome_56 rfl (lv_at hl 1 rfl) ?_
        refine lv_iload S.1 S.2.1 dX9_layHome_57 (lv_at hl 0 rfl) ?_
        refine lv_if_eq (tgt := 66) S.1 S.2.1 dX9_layHome_59 (by decide) (fun c_116 => absurd c_116 (by decide)) (fun c_116 => ?_)
        refine lv_iconst (v := (0)) S.1 S.2.1 dX9_layHome_62 (by decide) ?_
        refine lv_goto (tgt := 69) S.1 S.2.1 dX9_layHome_63 (by decide) ?_
        refine va_iast S.1 S.2.1 hK.1 hP hD hS 3 0 rfl rfl (in_of (n := 480) (by  omega) (by  omega)) dX9_layHome_69 (fun H locs hP hD hS => ?_)
        obtain ⟨f_117, hf_117⟩ : ∃ g, (upd aw1 i.toNatClampNeg (0)) = g := ⟨_, rfl⟩
        have ua : upd aw1 (i).toNatClampNeg 0 = f_117 := hf_117
        have hP : va_P D vwCl [(y_fee, .inl (cI, 640, .inl fe1)), (y_goesTo, .inl (cI, 640, .inl go1)), (y_cost, .inl (cI, 480, .inl f_115)), (y_away, .inl (cI, 480, .inl (upd aw1 i.toNatClampNeg (0)))), (y, .inr (9, [.int m_thrown, .int m_status, .ref y_lane, .ref y_many, .ref y_item, .ref y_city, .ref y_fresh, .int m_isThere, .ref y_tape, .int m_taped, .int m_latest, .int m_length, .int m_cursor, .int m_token, .int m_start, .int m_till, .int m_fault, .int m_faultAt, .int sn1, .int mr1, .ref y_cost, .ref y_away, .ref y_fee, .ref y_goesTo, .ref y_priceWas, .ref y_isKept, .ref y_kept, .ref y_trace, .int m_traced])), (y_city, .inl (cI, 192, .inl cy))] H := hP
        have hD : va_D A [(y_fee, .inl (cI, 640, .inl fe1)), (y_goesTo, .inl (cI, 640, .inl go1)), (y_cost, .inl (cI, 480, .inl f_115)), (y_away, .inl (cI, 480, .inl (upd aw1 i.toNatClampNeg (0)))), (y, .inr (9, [.int m_thrown, .int m_status, .ref y_lane, .ref y_many, .ref y_item, .ref y_city, .ref y_fresh, .int m_isThere, .ref y_tape, .int m_taped, .int m_latest, .int m_length, .int m_cursor, .int m_token, .int m_start, .int m_till, .int m_fault, .int m_faultAt, .int sn1, .int mr1, .ref y_cost, .ref y_away, .ref y_fee, .ref y_goesTo, .ref y_priceWas, .ref y_isKept, .ref y_kept, .ref y_trace, .int m_traced])), (y_city, .inl (cI, 192, .inl cy))] := hD
        rw [hf_117] at hP hD
        obtain ⟨x_118, ex_118⟩ : ∃ y : Int32, y = i + Int32.ofInt (1) := ⟨_, rfl⟩
        refine lv_iinc (v := x_118) (lv' := [(3, .int x_118), (4, .int 1), (0, .ref y), (1, .int a), (2, .int g)]) S.1 S.2.1 dX9_layHome_70 hl (k := 1) rfl ex_118.symm (by decide) rfl (fun ls hl => ?_)
        have tx_118 : x_118.toInt = i.toInt + (1) := addI (A := i.toInt) (B := 1) ex_118 rfl rfl (by  omega) (by  omega)
        refine lv_goto (tgt := 7) S.1 S.2.1 dX9_layHome_73 (by decide) ?_
        have hP := hP.sub (ws' := [(y, .inr (9, [.int m_thrown, .int m_status, .ref y_lane, .ref y_many, .ref y_item, .ref y_city, .ref y_fresh, .int m_isThere, .ref y_tape, .int m_taped, .int m_latest, .int m_length, .int m_cursor, .int m_token, .int m_start, .int m_till, .int m_fault, .int m_faultAt, .int sn1, .int mr1, .ref y_cost, .ref y_away, .ref y_fee, .ref y_goesTo, .ref y_priceWas, .ref y_isKept, .ref y_kept, .ref y_trace, .int m_traced])), (y_city, .inl (cI, 192, .inl cy)), (y_fee, .inl (cI, 640, .inl fe1)), (y_goesTo, .inl (cI, 640, .inl go1)), (y_cost, .inl (cI, 480, .inl f_115)), (y_away, .inl (cI, 480, .inl f_117))]) [4, 5, 0, 1, 2, 3] rfl
        have hD := hD.sub (ws' := [(y, .inr (9, [.int m_thrown, .int m_status, .ref y_lane, .ref y_many, .ref y_item, .ref y_city, .ref y_fresh, .int m_isThere, .ref y_tape, .int m_taped, .int m_latest, .int m_length, .int m_cursor, .int m_token, .int m_start, .int m_till, .int m_fault, .int m_faultAt, .int sn1, .int mr1, .ref y_cost, .ref y_away, .ref y_fee, .ref y_goesTo, .ref y_priceWas, .ref y_isKept, .ref y_kept, .ref y_trace, .int m_traced])), (y_city, .inl (cI, 192, .inl cy)), (y_fee, .inl (cI, 640, .inl fe1)), (y_goesTo, .inl (cI, 640, .inl go1)), (y_cost, .inl (cI, 480, .inl f_115)), (y_away, .inl (cI, 480, .inl f_117))]) [4, 5, 0, 1, 2, 3] (by decide) rfl
        exact ih x_118 f_115 f_117 (by first | with_reducible assumption | assumption | omega | decide | (rw [show Int32.toInt 0 = 0 from rfl]; omega)) (by first | with_reducible assumption | assumption | omega | decide | (rw [show Int32.toInt 0 = 0 from rfl]; omega)) (by first | with_reducible assumption | assumption | omega | decide | (rw [show Int32.toInt 0 = 0 from rfl]; omega)) (by first | with_reducible assumption | decide | (and_intros <;> first | with_reducible assumption | (intros; refine Int.le_antisymm ?_ ?_ <;> omega) | omega) | assumption | (rw [show Int32.toInt 0 = 0 from rfl]; omega)) (by first | assumption | (rw [← uc, ← ua]; exact LB0_ext hlb0 (by first | (and_intros <;> first | with_reducible assumption | (refine Int.le_antisymm ?_ ?_ <;> omega) | omega) | omega) rfl (by first | (and_intros <;> first | with_reducible assumption | (refine Int.le_antisymm ?_ ?_ <;> omega) | omega) | omega) (by decide))) (by first | omega | (have q1 := LB_mu hLB; first | omega | (rw [show Int32.toInt 0 = 0 from rfl]; omega) | (rw [show Int32.toInt 1 = 1 from rfl]; omega))) H _ ls hP hD hS (lv_sub hl [0, 2, 3, 4] rfl)
set_option maxHeartbeats 4000000 in
set_option maxRecDepth 100000 in
theorem lp_mlay2 {p : Program} (l : Launch) {e : Env} {s : State} {m : MethodId} {below : List Frame} {meth : Method} {c : Code} (D : va_G) (cI cZ cC cS : ClassId) (sq : Nat → Nat) (y : Nat) (y_city : Nat) (y_fee : Nat) (y_goesTo : Nat) (y_cost : Nat) (y_away : Nat) (a : Int32) (g : Int32) (m_thrown : Int32) (m_status : Int32) (y_lane : Nat) (y_many : Nat) (y_item : Nat) (y_fresh : Nat) (m_isThere : Int32) (y_tape : Nat) (m_taped : Int32) (m_latest : Int32) (m_length : Int32) (m_cursor : Int32) (m_token : Int32) (m_start : Int32) (m_till : Int32) (m_fault : Int32) (m_faultAt : Int32) (m_seen : Int32) (m_mirrors : Int32) (y_priceWas : Nat) (y_isKept : Nat) (y_kept : Nat) (y_trace : Nat) (m_traced : Int32) (cy : Nat → Int32) (fe : Nat → Int32) (go : Nat → Int32) (co : Nat → Int32) (aw : Nat → Int32) (hpd_cy : prd cyK 192 cy) (hrg_fe : rng fe 640 (0) (400)) (hrg_go : rng go 640 (-1) (79)) (ha : 0 ≤ a.toInt ∧ a.toInt < 6) (hg : 0 ≤ g.toInt ∧ g.toInt ≤ 5) (hsm : -1 ≤ m_seen.toInt ∧ m_seen.toInt < 80 ∧ 0 ≤ m_mirrors.toInt ∧ m_mirrors.toInt ≤ 2) (sn1 : Int32) (mr1 : Int32) (fe1 : Nat → Int32) (go1 : Nat → Int32) (hsm1 : -1 ≤ sn1.toInt ∧ sn1.toInt < 80 ∧ 0 ≤ mr1.toInt ∧ mr1.toInt ≤ 2) {A : Nat → Prop} (X : bX p s m meth c cX9_layHome 5 wsX9_layHome yX9_layHome none [.ref y, .int a, .int g]) (hK : kW D (tyW cI cZ cC cS) sq s) (hT : sT sq A s s.heap) (hA : ∀ q, s.heap.size ≤ q → A q) (K : ∀ (mo : Int32) (co1 : Nat → Int32) (aw1 : Nat → Int32), (prd cyK 192 cy) → (rng fe1 640 (0) (400)) → (rng go1 640 (-1) (79)) → (LB co1 aw1 fe1 go1 cy g.toInt) → ((mo.toInt = 0 ∧ FXr fe1 go1 cy co1 aw1 (80 * (g.toInt + 1)) 0) ∨ mo.toInt = 1) → (FXr fe1 go1 cy co1 aw1 (80 * (g.toInt + 1)) 0) → ∀ (H : Heap) (locs : List Loc) (ls : Array Slot), va_P D vwCl [(y, .inr (9, [.int m_thrown, .int m_status, .ref y_lane, .ref y_many, .ref y_item, .ref y_city, .ref y_fresh, .int m_isThere, .ref y_tape, .int m_taped, .int m_latest, .int m_length, .int m_cursor, .int m_token, .int m_start, .int m_till, .int m_fault, .int m_faultAt, .int sn1, .int mr1, .ref y_cost, .ref y_away, .ref y_fee, .ref y_goesTo, .ref y_priceWas, .ref y_isKept, .ref y_kept, .ref y_trace, .int m_traced])), (y_city, .inl (cI, 192, .inl cy)), (y_fee, .inl (cI, 640, .inl fe1)), (y_goesTo, .inl (cI, 640, .inl go1)), (y_cost, .inl (cI, 480, .inl co1)), (y_away, .inl (cI, 480, .inl aw1))] H → va_D A [(y, .inr (9, [.int m_thrown, .int m_status, .ref y_lane, .ref y_many, .ref y_item, .ref y_city, .ref y_fresh, .int m_isThere, .ref y_tape, .int m_taped, .int m_latest, .int m_length, .int m_cursor, .int m_token, .int m_start, .int m_till, .int m_fault, .int m_faultAt, .int sn1, .int mr1, .ref y_cost, .ref y_away, .ref y_fee, .ref y_goesTo, .ref y_priceWas, .ref y_isKept, .ref y_kept, .ref y_trace, .int m_traced])), (y_city, .inl (cI, 192, .inl cy)), (y_fee, .inl (cI, 640, .inl fe1)), (y_goesTo, .inl (cI, 640, .inl go1)), (y_cost, .inl (cI, 480, .inl co1)), (y_away, .inl (cI, 480, .inl aw1))] → va_S A s.heap H locs → lv_has ls 5 [(3, .int mo), (0, .ref y), (1, .int a), (2, .int g)] → W p l e (rmW 6 240 0 0) s m ([.ref y, .int a, .int g] : List Value).toArray below meth c H locs 0 0 (MQ below (va_Qv (fun w => (∃ (m_seen2 : Int32), ∃ (m_mirrors2 : Int32), ∃ (fe2 : Nat → Int32), ∃ (go2 : Nat → Int32), ∃ (co2 : Nat → Int32), ∃ (aw2 : Nat → Int32), (rng fe2 640 (0) (400)) ∧ (rng go2 640 (-1) (79)) ∧ (-1 ≤ m_seen2.toInt ∧ m_seen2.toInt < 80 ∧ 0 ≤ m_mirrors2.toInt ∧ m_mirrors2.toInt ≤ 2) ∧ (LB co2 aw2 fe2 go2 cy g.toInt) ∧ (FXr fe2 go2 cy co2 aw2 (80 * (g.toInt + 1)) 0) ∧ w = [(y, .inr (9, [.int m_thrown, .int m_status, .ref y_lane, .ref y_many, .ref y_item, .ref y_city, .ref y_fresh, .int m_isThere, .ref y_tape, .int m_taped, .int m_latest, .int m_length, .int m_cursor, .int m_token, .int m_start, .int m_till, .int m_fault, .int m_faultAt, .int m_seen2, .int m_mirrors2, .ref y_cost, .ref y_away, .ref y_fee, .ref y_goesTo, .ref y_priceWas, .ref y_isKept, .ref y_kept, .ref y_trace, .int m_traced])), (y_city, .inl (cI, 192, .inl cy)), (y_fee, .inl (cI, 640, .inl fe2)), (y_goesTo, .inl (cI, 640, .inl go2)), (y_cost, .inl (cI, 480, .inl co2)), (y_away, .inl (cI, 480, .inl aw2))])) (wD D A) A) ([.ref y, .int a, .int g] : List Value).toArray s 0 0 A) (F0 m 91 ls [])) : ∀ (mN : Nat) (mo : Int32) (co1 : Nat → Int32) (aw1 : Nat → Int32), (prd cyK 192 cy) → (rng fe1 640 (0) (400)) → (rng go1 640 (-1) (79)) → (LB co1 aw1 fe1 go1 cy g.toInt) → ((mo.toInt = 0 ∧ FXr fe1 go1 cy co1 aw1 (80 * (g.toInt + 1)) 0) ∨ mo.toInt = 1) → ((2 * mu co1 aw1 480 + mo.toInt).toNat < mN) → ∀ (H : Heap) (locs : List Loc) (ls : Array Slot), va_P D vwCl [(y, .inr (9, [.int m_thrown, .int m_status, .ref y_lane, .ref y_many, .ref y_item, .ref y_city, .ref y_fresh, .int m_isThere, .ref y_tape, .int m_taped, .int m_latest, .int m_length, .int m_cursor, .int m_token, .int m_start, .int m_till, .int m_fault, .int m_faultAt, .int sn1, .int mr1, .ref y_cost, .ref y_away, .ref y_fee, .ref y_goesTo, .ref y_priceWas, .ref y_isKept, .ref y_kept, .ref y_trace, .int m_traced])), (y_city, .inl (cI, 192, .inl cy)), (y_fee, .inl (cI, 640, .inl fe1)), (y_goesTo, .inl (cI, 640, .inl go1)), (y_cost, .inl (cI, 480, .inl co1)), (y_away, .inl (cI, 480, .inl aw1))] H → va_D A [(y, .inr (9, [.int m_thrown, .int m_status, .ref y_lane, .ref y_many, .ref y_item, .ref y_city, .ref y_fresh, .int m_isThere, .ref y_tape, .int m_taped, .int m_latest, .int m_length, .int m_cursor, .int m_token, .int m_start, .int m_till, .int m_fault, .int m_faultAt, .int sn1, .int mr1, .ref y_cost, .ref y_away, .ref y_fee, .ref y_goesTo, .ref y_priceWas, .ref y_isKept, .ref y_kept, .ref y_trace, .int m_traced])), (y_city, .inl (cI, 192, .inl cy)), (y_fee, .inl (cI, 640, .inl fe1)), (y_goesTo, .inl (cI, 640, .inl go1)), (y_cost, .inl (cI, 480, .inl co1)), (y_away, .inl (cI, 480, .inl aw1))] → va_S A s.heap H locs → lv_has ls 5 [(3, .int mo), (0, .ref y), (1, .int a), (2, .int g)] → W p l e (rmW 6 240 0 0) s m ([.ref y, .int a, .int g] : List Value).toArray below meth c H locs 0 0 (MQ below (va_Qv (fun w => (∃ (m_seen2 : Int32), ∃ (m_mirrors2 : Int32), ∃ (fe2 : Nat → Int32), ∃ (go2 : Nat → Int32), ∃ (co2 : Nat → Int32), ∃ (aw2 : Nat → Int32), (rng fe2 640 (0) (400)) ∧ (rng go2 640 (-1) (79)) ∧ (-1 ≤ m_seen2.toInt ∧ m_seen2.toInt < 80 ∧ 0 ≤ m_mirrors2.toInt ∧ m_mirrors2.toInt ≤ 2) ∧ (LB co2 aw2 fe2 go2 cy g.toInt) ∧ (FXr fe2 go2 cy co2 aw2 (80 * (g.toInt + 1)) 0) ∧ w = [(y, .inr (9, [.int m_thrown, .int m_status, .ref y_lane, .ref y_many, .ref y_item, .ref y_city, .ref y_fresh, .int m_isThere, .ref y_tape, .int m_taped, .int m_latest, .int m_length, .int m_cursor, .int m_token, .int m_start, .int m_till, .int m_fault, .int m_faultAt, .int m_seen2, .int m_mirrors2, .ref y_cost, .ref y_away, .ref y_fee, .ref y_goesTo, .ref y_priceWas, .ref y_isKept, .ref y_kept, .ref y_trace, .int m_traced])), (y_city, .inl (cI, 192, .inl cy)), (y_fee, .inl (cI, 640, .inl fe2)), (y_goesTo, .inl (cI, 640, .inl go2)), (y_cost, .inl (cI, 480, .inl co2)), (y_away, .inl (cI, 480, .inl aw2))])) (wD D A) A) ([.ref y, .int a, .int g] : List Value).toArray s 0 0 A) (F0 m 78 ls []) := by
  have S : CallFix p m c cX9_layHome 5 s ([.ref y, .int a, .int g] : List Value).toArray wsX9_layHome RX9 := X.1
  intro mN
  induction mN with
  | zero => intro mo co1 aw1 hpd_cy hrg_fe1 hrg_go1 hLB hmo hm; exact absurd hm (Nat.not_lt_zero _)
  | succ mN ih =>
    intro mo co1 aw1 hpd_cy hrg_fe1 hrg_go1 hLB hmo hm H locs ls hP hD hS hl
    refine lv_iload_n S.1 S.2.1 dX9_layHome_78 rfl (lv_at hl 0 rfl) ?_
    refine lv_if_eq (tgt := 91) S.1 S.2.1 dX9_layHome_79 (by decide) (fun c_201 => ?_) (fun c_201 => ?_)
    · rw [eq2 (a := mo) (b := 0) (A := mo.toInt) (B := 0) rfl rfl] at c_201
      exact K mo co1 aw1 (by first | with_reducible assumption | assumption | omega | decide | (rw [show Int32.toInt 0 = 0 from rfl]; omega)) (by first | with_reducible assumption | assumption | omega | decide | (rw [show Int32.toInt 0 = 0 from rfl]; omega)) (by first | with_reducible assumption | assumption | omega | decide | (rw [show Int32.toInt 0 = 0 from rfl]; omega)) (by first | with_reducible assumption | assumption) (by first | exact Or.inr rfl | exact Or.inl ⟨rfl, by assumption⟩ | assumption) (by rcases hmo with ⟨-, q⟩ | q; exact q; exact absurd q (by first | (and_intros <;> first | with_reducible assumption | (refine Int.le_antisymm ?_ ?_ <;> omega) | omega) | omega)) H _ ls hP hD hS (lv_sub hl [0, 1, 2, 3] rfl)
    · rw [eq2 (a := mo) (b := 0) (A := mo.toInt) (B := 0) rfl rfl] at c_201
      refine lv_aload_n S.1 S.2.1 dX9_layHome_82 rfl (lv_at hl 1 rfl) ?_
      refine lv_iload_n S.1 S.2.1 dX9_layHome_83 rfl (lv_at hl 3 rfl) ?_
      refine b_ai (wr := []) (b_runV (q0 := 0) (ci := 9) (As := [.int g]) (s_X9_relax l D cI cZ cC cS sq H.size y y_city y_fee y_goesTo y_cost y_away g m_thrown m_status y_lane y_many y_item y_fresh m_isThere y_tape m_taped m_latest m_length m_cursor m_token m_start m_till m_fault m_faultAt sn1 mr1 y_priceWas y_isKept y_kept y_trace m_traced cy fe1 go1 co1 aw1 (by first | with_reducible assumption | assumption | omega | decide | (rw [show Int32.toInt 0 = 0 from rfl]; omega)) (by first | with_reducible assumption | assumption | omega | decide | (rw [show Int32.toInt 0 = 0 from rfl]; omega)) (by first | with_reducible assumption | assumption | omega | decide | (rw [show Int32.toInt 0 = 0 from rfl]; omega)) (by first | with_reducible assumption | decide | (and_intros <;> first | with_reducible assumption | (intros; refine Int.le_antisymm ?_ ?_ <;> omega) | omega) | assumption | (rw [show Int32.toInt 0 = 0 from rfl]; omega)) (by first | with_reducible assumption | assumption | omega | decide | (rw [show Int32.toInt 0 = 0 from rfl]; omega))) S gX9_layHome_X9_relax rfl hdV_X9_relax ⟨Nat.le_of_ble_eq_true rfl, Nat.le_of_ble_eq_true rfl⟩ ⟨Nat.le_of_ble_eq_true rfl, Nat.le_of_ble_eq_true rfl⟩ hK hT hS hA hP hD rfl rfl [0, 1, 2, 3, 4, 5] rfl (by decide) rfl hl.1 rfl (Nat.le_of_ble_eq_true rfl) dX9_layHome_84) hP hD hS hA [0, 1, 2, 3, 4, 5] [] rfl rfl (by decide) (by decide) (fun r_202 w_203 H locs hw_204 hP hD hS => ?_)
      rcases hw_204 with ⟨co2_205, aw2_206, hf_207, hf_208, hf_209, rfl, rfl⟩ | ⟨co2_210, aw2_211, hf_212, hf_213, rfl, rfl⟩
      · have hP : va_P D vwCl [(y, .inr (9, [.int m_thrown, .int m_status, .ref y_lane, .ref y_many, .ref y_item, .ref y_city, .ref y_fresh, .int m_isThere, .ref y_tape, .int m_taped, .int m_latest, .int m_length, .int m_cursor, .int m_token, .int m_start, .int m_till, .int m_fault, .int m_faultAt, .int sn1, .int mr1, .ref y_cost, .ref y_away, .ref y_fee, .ref y_goesTo, .ref y_priceWas, .ref y_isKept, .ref y_kept, .ref y_trace, .int m_traced])), (y_city, .inl (cI, 192, .inl cy)), (y_fee, .inl (cI, 640, .inl fe1)), (y_goesTo, .inl (cI, 640, .inl go1)), (y_cost, .inl (cI, 480, .inl co2_205)), (y_away, .inl (cI, 480, .inl aw2_206))] H := hP
        have hD : va_D A [(y, .inr (9, [.int m_thrown, .int m_status, .ref y_lane, .ref y_many, .ref y_item, .ref y_city, .ref y_fresh, .int m_isThere, .ref y_tape, .int m_taped, .int m_latest, .int m_length, .int m_cursor, .int m_token, .int m_start, .int m_till, .int m_fault, .int m_faultAt, .int sn1, .int mr1, .ref y_cost, .ref y_away, .ref y_fee, .ref y_goesTo, .ref y_priceWas, .ref y_isKept, .ref y_kept, .ref y_trace, .int m_traced])), (y_city, .inl (cI, 192, .inl cy)), (y_fee, .inl (cI, 640, .inl fe1)), (y_goesTo, .inl (cI, 640, .inl go1)), (y_cost, .inl (cI, 480, .inl co2_205)), (y_away, .inl (cI, 480, .inl aw2_206))] := hD
        refine lv_istore_n (lv' := [(3, .int 0), (0, .ref y), (1, .int a), (2, .int g)]) S.1 S.2.1 dX9_layHome_87 rfl hl (by decide) rfl (fun ls hl => ?_)
        refine lv_goto (tgt := 78) S.1 S.2.1 dX9_layHome_88 (by decide) ?_
        have lq0 : Int32.toInt (0) = 0 := by decide
        exact ih (0) co2_205 aw2_206 (by first | with_reducible assumption | assumption | omega | decide | (rw [show Int32.toInt 0 = 0 from rfl]; omega)) (by first | with_reducible assumption | assumption | omega | decide | (rw [show Int32.toInt 0 = 0 from rfl]; omega)) (by first | with_reducible assumption | assumption | omega | decide | (rw [show Int32.toInt 0 = 0 from rfl]; omega)) (by first | with_reducible assumption | assumption) (by first | exact Or.inr rfl | exact Or.inl ⟨rfl, by assumption⟩ | assumption) (by first | omega | (have q1 := LB_mu hLB; first | omega | (rw [show Int32.toInt 0 = 0 from rfl]; omega) | (rw [show Int32.toInt 1 = 1 from rfl]; omega))) H _ ls hP hD hS (lv_sub hl [0, 1, 2, 3] rfl)
      · have hP : va_P D vwCl [(y, .inr (9, [.int m_thrown, .int m_status, .ref y_lane, .ref y_many, .ref y_item, .ref y_city, .ref y_fresh, .int m_isThere, .ref y_tape, .int m_taped, .int m_latest, .int m_length, .int m_cursor, .int m_token, .int m_start, .int m_till, .int m_fault, .int m_faultAt, .int sn1, .int mr1, .ref y_cost, .ref y_away, .ref y_fee, .ref y_goesTo, .ref y_priceWas, .ref y_isKept, .ref y_kept, .ref y_trace, .int m_traced])), (y_city, .inl (cI, 192, .inl cy)), (y_fee, .inl (cI, 640, .inl fe1)), (y_goesTo, .inl (cI, 640, .inl go1)), (y_cost, .inl (cI, 480, .inl co2_210)), (y_away, .inl (cI, 480, .inl aw2_211))] H := hP
        have hD : va_D A [(y, .inr (9, [.int m_thrown, .int m_status, .ref y_lane, .ref y_many, .ref y_item, .ref y_city, .ref y_fresh, .int m_isThere, .ref y_tape, .int m_taped, .int m_latest, .int m_length, .int m_cursor, .int m_token, .int m_start, .int m_till, .int m_fault, .int m_faultAt, .int sn1, .int mr1, .ref y_cost, .ref y_away, .ref y_fee, .ref y_goesTo, .ref y_priceWas, .ref y_isKept, .ref y_kept, .ref y_trace, .int m_traced])), (y_city, .inl (cI, 192, .inl cy)), (y_fee, .inl (cI, 640, .inl fe1)), (y_goesTo, .inl (cI, 640, .inl go1)), (y_cost, .inl (cI, 480, .inl co2_210)), (y_away, .inl (cI, 480, .inl aw2_211))] := hD
        refine lv_istore_n (lv' := [(3, .int 1), (0, .ref y), (1, .int a), (2, .int g)]) S.1 S.2.1 dX9_layHome_87 rfl hl (by decide) rfl (fun ls hl => ?_)
        refine lv_goto (tgt := 78) S.1 S.2.1 dX9_layHome_88 (by decide) ?_
        have lq1 : Int32.toInt (1) = 1 := by decide
        exact ih (1) co2_210 aw2_211 (by first | with_reducible assumption | assumption | omega | decide | (rw [show Int32.toInt 0 = 0 from rfl]; omega)) (by first | with_reducible assumption | assumption | omega | decide | (rw [show Int32.toInt 0 = 0 from rfl]; omega)) (by first | with_reducible assumption | assumption | omega | decide | (rw [show Int32.toInt 0 = 0 from rfl]; omega)) (by first | with_reducible assumption | assumption) (by first | exact Or.inr rfl | exact Or.inl ⟨rfl, by assumption⟩ | assumption) (by first | omega | (have q1 := LB_mu hLB; first | omega | (rw [show Int32.toInt 0 = 0 from rfl]; omega) | (rw [show Int32.toInt 1 = 1 from rfl]; omega))) H _ ls hP hD hS (lv_sub hl [0, 1, 2, 3] rfl)
set_option maxHeartbeats 4000000 in
set_option maxRecDepth 100000 in
theorem s_X9_layHome (l : Launch) (D : va_G) (cI cZ cC cS : ClassId) (sq : Nat → Nat) (sz : Nat) (y : Nat) (y_city : Nat) (y_fee : Nat) (y_goesTo : Nat) (y_cost : Nat) (y_away : Nat) (a : Int32) (g : Int32) (m_thrown : Int32) (m_status : Int32) (y_lane : Nat) (y_many : Nat) (y_item : Nat) (y_fresh : Nat) (m_isThere : Int32) (y_tape : Nat) (m_taped : Int32) (m_latest : Int32) (m_length : Int32) (m_cursor : Int32) (m_token : Int32) (m_start : Int32) (m_till : Int32) (m_fault : Int32) (m_faultAt : Int32) (m_seen : Int32) (m_mirrors : Int32) (y_priceWas : Nat) (y_isKept : Nat) (y_kept : Nat) (y_trace : Nat) (m_traced : Int32) (cy : Nat → Int32) (fe : Nat → Int32) (go : Nat → Int32) (co : Nat → Int32) (aw : Nat → Int32) (hpd_cy : prd cyK 192 cy) (hrg_fe : rng fe 640 (0) (400)) (hrg_go : rng go 640 (-1) (79)) (ha : 0 ≤ a.toInt ∧ a.toInt < 6) (hg : 0 ≤ g.toInt ∧ g.toInt ≤ 5) (hsm : -1 ≤ m_seen.toInt ∧ m_seen.toInt < 80 ∧ 0 ≤ m_mirrors.toInt ∧ m_mirrors.toInt ≤ 2) : mV l yX9_layHome wsX9_layHome 6 240 0 0 D (tyW cI cZ cC cS) sq [(y, .inr (9, [.int m_thrown, .int m_status, .ref y_lane, .ref y_many, .ref y_item, .ref y_city, .ref y_fresh, .int m_isThere, .ref y_tape, .int m_taped, .int m_latest, .int m_length, .int m_cursor, .int m_token, .int m_start, .int m_till, .int m_fault, .int m_faultAt, .int m_seen, .int m_mirrors, .ref y_cost, .ref y_away, .ref y_fee, .ref y_goesTo, .ref y_priceWas, .ref y_isKept, .ref y_kept, .ref y_trace, .int m_traced])), (y_city, .inl (cI, 192, .inl cy)), (y_fee, .inl (cI, 640, .inl fe)), (y_goesTo, .inl (cI, 640, .inl go)), (y_cost, .inl (cI, 480, .inl co)), (y_away, .inl (cI, 480, .inl aw))] sz [.ref y, .int a, .int g] (fun w => (∃ (m_seen2 : Int32), ∃ (m_mirrors2 : Int32), ∃ (fe2 : Nat → Int32), ∃ (go2 : Nat → Int32), ∃ (co2 : Nat → Int32), ∃ (aw2 : Nat → Int32), (rng fe2 640 (0) (400)) ∧ (rng go2 640 (-1) (79)) ∧ (-1 ≤ m_seen2.toInt ∧ m_seen2.toInt < 80 ∧ 0 ≤ m_mirrors2.toInt ∧ m_mirrors2.toInt ≤ 2) ∧ (LB co2 aw2 fe2 go2 cy g.toInt) ∧ (FXr fe2 go2 cy co2 aw2 (80 * (g.toInt + 1)) 0) ∧ w = [(y, .inr (9, [.int m_thrown, .int m_status, .ref y_lane, .ref y_many, .ref y_item, .ref y_city, .ref y_fresh, .int m_isThere, .ref y_tape, .int m_taped, .int m_latest, .int m_length, .int m_cursor, .int m_token, .int m_start, .int m_till, .int m_fault, .int m_faultAt, .int m_seen2, .int m_mirrors2, .ref y_cost, .ref y_away, .ref y_fee, .ref y_goesTo, .ref y_priceWas, .ref y_isKept, .ref y_kept, .ref y_trace, .int m_traced])), (y_city, .inl (cI, 192, .inl cy)), (y_fee, .inl (cI, 640, .inl fe2)), (y_goesTo, .inl (cI, 640, .inl go2)), (y_cost, .inl (cI, 480, .inl co2)), (y_away, .inl (cI, 480, .inl aw2))])) := by
  refine b_metV (cc := cX9_layHome) (maxL := 5) (ret := none) (by decide) rfl (Nat.le_of_ble_eq_true rfl) ?_
  intro p e s m below meth c ls A H X hsz hP hK hT hD hA hS hl
  have S : CallFix p m c cX9_layHome 5 s ([.ref y, .int a, .int g] : List Value).toArray wsX9_layHome RX9 := X.1
  have hl : lv_has ls 5 [(0, .ref y), (1, .int a), (2, .int g)] := hl
  refine lv_aload_n S.1 S.2.1 dX9_layHome_0 rfl (lv_at hl 0 rfl) ?_
  refine lv_iload_n S.1 S.2.1 dX9_layHome_1 rfl (lv_at hl 1 rfl) ?_
  refine b_av (wr := [(y_cost, .inl (cI, 480, .inl co)), (y_away, .inl (cI, 480, .inl aw))]) (b_runV (q0 := 0) (ci := 9) (As := [.int a]) (s_X9_layFees l D cI cZ cC cS sq H.size y y_city y_fee y_goesTo a m_thrown m_status y_lane y_many y_item y_fresh m_isThere y_tape m_taped m_latest m_length m_cursor m_token m_start m_till m_fault m_faultAt m_seen m_mirrors y_cost y_away y_priceWas y_isKept y_kept y_trace m_traced cy fe go (by first | with_reducible assumption | assumption | omega | decide | (rw [show Int32.toInt 0 = 0 from rfl]; omega)) (by first | with_reducible assumption | assumption | omega | decide | (rw [show Int32.toInt 0 = 0 from rfl]; omega)) (by first | with_reducible assumption | assumption | omega | decide | (rw [show Int32.toInt 0 = 0 from rfl]; omega)) (by first | with_reducible assumption | decide | (and_intros <;> first | with_reducible assumption | (intros; refine Int.le_antisymm ?_ ?_ <;> omega) | omega) | assumption | (rw [show Int32.toInt 0 = 0 from rfl]; omega)) (by first | with_reducible assumption | decide | (and_intros <;> first | with_reducible assumption | (intros; refine Int.le_antisymm ?_ ?_ <;> omega) | omega) | assumption | (rw [show Int32.toInt 0 = 0 from rfl]; omega))) S gX9_layHome_X9_layFees rfl hdV_X9_layFees ⟨Nat.le_of_ble_eq_true rfl, Nat.le_of_ble_eq_true rfl⟩ ⟨Nat.le_of_ble_eq_true rfl, Nat.le_of_ble_eq_true rfl⟩ hK hT hS hA hP hD rfl rfl [0, 1, 2, 3] rfl (by decide) rfl hl.1 rfl (Nat.le_of_ble_eq_true rfl) dX9_layHome_2) hP hD hS hA [0, 1, 2, 3] [4, 5] rfl rfl (by decide) (by decide) (fun w_2 H locs hw_3 hP hD hS => ?_)
  obtain ⟨m_seen2_4, m_mirrors2_5, fe2_6, go2_7, hf_8, hf_9, hf_10, rfl⟩ := hw_3
  have hP : va_P D vwCl [(y_cost, .inl (cI, 480, .inl co)), (y_away, .inl (cI, 480, .inl aw)), (y, .inr (9, [.int m_thrown, .int m_status, .ref y_lane, .ref y_many, .ref y_item, .ref y_city, .ref y_fresh, .int m_isThere, .ref y_tape, .int m_taped, .int m_latest, .int m_length, .int m_cursor, .int m_token, .int m_start, .int m_till, .int m_fault, .int m_faultAt, .int m_seen2_4, .int m_mirrors2_5, .ref y_cost, .ref y_away, .ref y_fee, .ref y_goesTo, .ref y_priceWas, .ref y_isKept, .ref y_kept, .ref y_trace, .int m_traced])), (y_city, .inl (cI, 192, .inl cy)), (y_fee, .inl (cI, 640, .inl fe2_6)), (y_goesTo, .inl (cI, 640, .inl go2_7))] H := hP
  have hD : va_D A [(y_cost, .inl (cI, 480, .inl co)), (y_away, .inl (cI, 480, .inl aw)), (y, .inr (9, [.int m_thrown, .int m_status, .ref y_lane, .ref y_many, .ref y_item, .ref y_city, .ref y_fresh, .int m_isThere, .ref y_tape, .int m_taped, .int m_latest, .int m_length, .int m_cursor, .int m_token, .int m_start, .int m_till, .int m_fault, .int m_faultAt, .int m_seen2_4, .int m_mirrors2_5, .ref y_cost, .ref y_away, .ref y_fee, .ref y_goesTo, .ref y_priceWas, .ref y_isKept, .ref y_kept, .ref y_trace, .int m_traced])), (y_city, .inl (cI, 192, .inl cy)), (y_fee, .inl (cI, 640, .inl fe2_6)), (y_goesTo, .inl (cI, 640, .inl go2_7))] := hD
  refine lv_iconst (v := (0)) S.1 S.2.1 dX9_layHome_5 (by decide) ?_
  refine lv_istore_n (lv' := [(3, .int 0), (0, .ref y), (1, .int a), (2, .int g)]) S.1 S.2.1 dX9_layHome_6 rfl hl (by decide) rfl (fun ls hl => ?_)
  have hP := hP.sub (ws' := [(y, .inr (9, [.int m_thrown, .int m_status, .ref y_lane, .ref y_many, .ref y_item, .ref y_city, .ref y_fresh, .int m_isThere, .ref y_tape, .int m_taped, .int m_latest, .int m_length, .int m_cursor, .int m_token, .int m_start, .int m_till, .int m_fault, .int m_faultAt, .int m_seen2_4, .int m_mirrors2_5, .ref y_cost, .ref y_away, .ref y_fee, .ref y_goesTo, .ref y_priceWas, .ref y_isKept, .ref y_kept, .ref y_trace, .int m_traced])), (y_city, .inl (cI, 192, .inl cy)), (y_fee, .inl (cI, 640, .inl fe2_6)), (y_goesTo, .inl (cI, 640, .inl go2_7)), (y_cost, .inl (cI, 480, .inl co)), (y_away, .inl (cI, 480, .inl aw))]) [2, 3, 4, 5, 0, 1] rfl
  have hD := hD.sub (ws' := [(y, .inr (9, [.int m_thrown, .int m_status, .ref y_lane, .ref y_many, .ref y_item, .ref y_city, .ref y_fresh, .int m_isThere, .ref y_tape, .int m_taped, .int m_latest, .int m_length, .int m_cursor, .int m_token, .int m_start, .int m_till, .int m_fault, .int m_faultAt, .int m_seen2_4, .int m_mirrors2_5, .ref y_cost, .ref y_away, .ref y_fee, .ref y_goesTo, .ref y_priceWas, .ref y_isKept, .ref y_kept, .ref y_trace, .int m_traced])), (y_city, .inl (cI, 192, .inl cy)), (y_fee, .inl (cI, 640, .inl fe2_6)), (y_goesTo, .inl (cI, 640, .inl go2_7)), (y_cost, .inl (cI, 480, .inl co)), (y_away, .inl (cI, 480, .inl aw))]) [2, 3, 4, 5, 0, 1] (by decide) rfl
  refine lp_mlay1 l D cI cZ cC cS sq y y_city y_fee y_goesTo y_cost y_away a g m_thrown m_status y_lane y_many y_item y_fresh m_isThere y_tape m_taped m_latest m_length m_cursor m_token m_start m_till m_fault m_faultAt m_seen m_mirrors y_priceWas y_isKept y_kept y_trace m_traced cy fe go co aw hpd_cy hrg_fe hrg_go ha hg hsm m_seen2_4 m_mirrors2_5 fe2_6 go2_7 (by first | with_reducible assumption | decide | (and_intros <;> first | with_reducible assumption | (intros; refine Int.le_antisymm ?_ ?_ <;> omega) | omega) | assumption | (rw [show Int32.toInt 0 = 0 from rfl]; omega)) X hK hT hA (fun i_11 co1_12 aw1_13 hi_14 hi_15 hi_16 hi_17 hi_18 hi_19 H locs ls hP hD hS hl => ?_) _ (0) co aw (by first | with_reducible assumption | assumption | omega | decide | (rw [show Int32.toInt 0 = 0 from rfl]; omega)) (by first | with_reducible assumption | assumption | omega | decide | (rw [show Int32.toInt 0 = 0 from rfl]; omega)) (by first | with_reducible assumption | assumption | omega | decide | (rw [show Int32.toInt 0 = 0 from rfl]; omega)) (by first | with_reducible assumption | decide | (and_intros <;> first | with_reducible assumption | (intros; refine Int.le_antisymm ?_ ?_ <;> omega) | omega) | assumption | (rw [show Int32.toInt 0 = 0 from rfl]; omega)) (fun n h1 h2 => absurd h2 (by rw [show Int32.toInt 0 = 0 from rfl]; omega)) (Nat.lt_succ_self _) H _ ls hP hD hS (lv_sub hl [0, 1, 2, 3] rfl)
  refine lv_iconst (v := (1)) S.1 S.2.1 dX9_layHome_76 (by decide) ?_
  refine lv_istore_n (lv' := [(3, .int 1), (0, .ref y), (1, .int a), (2, .int g)]) S.1 S.2.1 dX9_layHome_77 rfl hl (by decide) rfl (fun ls hl => ?_)
  refine lp_mlay2 l D cI cZ cC cS sq y y_city y_fee y_goesTo y_cost y_away a g m_thrown m_status y_lane y_many y_item y_fresh m_isThere y_tape m_taped m_latest m_length m_cursor m_token m_start m_till m_fault m_faultAt m_seen m_mirrors y_priceWas y_isKept y_kept y_trace m_traced cy fe go co aw hpd_cy hrg_fe hrg_go ha hg hsm m_seen2_4 m_mirrors2_5 fe2_6 go2_7 (by first | with_reducible assumption | decide | (and_intros <;> first | with_reducible assumption | (intros; refine Int.le_antisymm ?_ ?_ <;> omega) | omega) | assumption | (rw [show Int32.toInt 0 = 0 from rfl]; omega)) X hK hT hA (fun mo_20 co1_21 aw1_22 hi_23 hi_24 hi_25 hi_26 hi_27 hi_28 H locs ls hP hD hS hl => ?_) _ (1) co1_12 aw1_13 (by first | with_reducible assumption | assumption | omega | decide | (rw [show Int32.toInt 0 = 0 from rfl]; omega)) (by first | with_reducible assumption | assumption | omega | decide | (rw [show Int32.toInt 0 = 0 from rfl]; omega)) (by first | with_reducible assumption | assumption | omega | decide | (rw [show Int32.toInt 0 = 0 from rfl]; omega)) (LB_init (by first | with_reducible assumption | assumption) (by first | (and_intros <;> first | with_reducible assumption | (refine Int.le_antisymm ?_ ?_ <;> omega) | omega) | omega)) (Or.inr rfl) (Nat.lt_succ_self _) H _ ls hP hD hS (lv_sub hl [0, 1, 2, 3] rfl)
  exact b_vret S.1 S.2.1 X.2.1 X.2.2.1 hP hD hS ⟨m_seen2_4, m_mirrors2_5, fe2_6, go2_7, co1_21, aw1_22, (by first | with_reducible assumption | assumption | omega | decide | (rw [show Int32.toInt 0 = 0 from rfl]; omega)), (by first | with_reducible assumption | assumption | omega | decide | (rw [show Int32.toInt 0 = 0 from rfl]; omega)), (by first | with_reducible assumption | decide | (and_intros <;> first | with_reducible assumption | (intros; refine Int.le_antisymm ?_ ?_ <;> omega) | omega) | assumption | (rw [show Int32.toInt 0 = 0 from rfl]; omega)), (by first | with_reducible assumption | assumption), (by first | with_reducible assumption | assumption), rfl⟩ dX9_layHome_91
set_option maxHeartbeats 4000000 in
set_option maxRecDepth 100000 in
theorem lp_mbest {p : Program} (l : Launch) {e : Env} {s : State} {m : MethodId} {below : List Frame} {meth : Method} {c : Code} (D : va_G) (cI cZ cC cS : ClassId) (sq : Nat → Nat) (y : Nat) (y_fee : Nat) (y_goesTo : Nat) (y_cost : Nat) (y_away : Nat) (k : Int32) (lf : Int32) (m_thrown : Int32) (m_status : Int32) (y_lane : Nat) (y_many : Nat) (y_item : Nat) (y_city : Nat) (y_fresh : Nat) (m_isThere : Int32) (y_tape : Nat) (m_taped : Int32) (m_latest : Int32) (m_length : Int32) (m_cursor : Int32) (m_token : Int32) (m_start : Int32) (m_till : Int32) (m_fault : Int32) (m_faultAt : Int32) (m_seen : Int32) (m_mirrors : Int32) (y_priceWas : Nat) (y_isKept : Nat) (y_kept : Nat) (y_trace : Nat) (m_traced : Int32) (fe : Nat → Int32) (go : Nat → Int32) (co : Nat → Int32) (aw : Nat → Int32) (nS : Int) (gS : Int) (cy : Nat → Int32) (hrg_fe : rng fe 640 (0) (400)) (hrg_go : rng go 640 (-1) (79)) (hn : 0 ≤ k.toInt ∧ k.toInt < 80 ∧ 0 ≤ lf.toInt ∧ lf.toInt ≤ 5 ∧ nS = k.toInt + 80 * lf.toInt) (hLB : LB co aw fe go cy gS) (hex : ∃ u : Int, 0 ≤ u ∧ u < 16 ∧ mtc co aw fe go nS u) (kn : Int32) (hkn : kn.toInt = nS) {A : Nat → Prop} (X : bX p s m meth c cX9_bestStep 7 wsX9_bestStep yX9_bestStep (some .int) [.ref y, .int k, .int lf]) (hK : kW D (tyW cI cZ cC cS) sq s) (hT : sT sq A s s.heap) (hA : ∀ q, s.heap.size ≤ q → A q) (K : ∀ (v : Int32), (rng fe 640 (0) (400)) → (rng go 640 (-1) (79)) → (0 ≤ v.toInt ∧ v.toInt ≤ 16) → (NB co aw fe go nS v.toInt) → (16 ≤ v.toInt) → ∀ (H : Heap) (locs : List Loc) (ls : Array Slot), va_P D vwCl [(y, .inr (9, [.int m_thrown, .int m_status, .ref y_lane, .ref y_many, .ref y_item, .ref y_city, .ref y_fresh, .int m_isThere, .ref y_tape, .int m_taped, .int m_latest, .int m_length, .int m_cursor, .int m_token, .int m_start, .int m_till, .int m_fault, .int m_faultAt, .int m_seen, .int m_mirrors, .ref y_cost, .ref y_away, .ref y_fee, .ref y_goesTo, .ref y_priceWas, .ref y_isKept, .ref y_kept, .ref y_trace, .int m_traced])), (y_fee, .inl (cI, 640, .inl fe)), (y_goesTo, .inl (cI, 640, .inl go)), (y_cost, .inl (cI, 480, .inl co)), (y_away, .inl (cI, 480, .inl aw))] H → va_D A [(y, .inr (9, [.int m_thrown, .int m_status, .ref y_lane, .ref y_many, .ref y_item, .ref y_city, .ref y_fresh, .int m_isThere, .ref y_tape, .int m_taped, .int m_latest, .int m_length, .int m_cursor, .int m_token, .int m_start, .int m_till, .int m_fault, .int m_faultAt, .int m_seen, .int m_mirrors, .ref y_cost, .ref y_away, .ref y_fee, .ref y_goesTo, .ref y_priceWas, .ref y_isKept, .ref y_kept, .ref y_trace, .int m_traced])), (y_fee, .inl (cI, 640, .inl fe)), (y_goesTo, .inl (cI, 640, .inl go)), (y_cost, .inl (cI, 480, .inl co)), (y_away, .inl (cI, 480, .inl aw))] → va_S A s.heap H locs → lv_has ls 7 [(4, .int v), (3, .int kn), (0, .ref y), (1, .int k), (2, .int lf)] → W p l e (rmW 0 0 0 0) s m ([.ref y, .int k, .int lf] : List Value).toArray below meth c H locs 0 0 (MQ below (va_Qi (fun r w => ((0 ≤ r.toInt ∧ r.toInt < 16) ∧ (mtc co aw fe go nS r.toInt) ∧ w = [(y, .inr (9, [.int m_thrown, .int m_status, .ref y_lane, .ref y_many, .ref y_item, .ref y_city, .ref y_fresh, .int m_isThere, .ref y_tape, .int m_taped, .int m_latest, .int m_length, .int m_cursor, .int m_token, .int m_start, .int m_till, .int m_fault, .int m_faultAt, .int m_seen, .int m_mirrors, .ref y_cost, .ref y_away, .ref y_fee, .ref y_goesTo, .ref y_priceWas, .ref y_isKept, .ref y_kept, .ref y_trace, .int m_traced])), (y_fee, .inl (cI, 640, .inl fe)), (y_goesTo, .inl (cI, 640, .inl go)), (y_cost, .inl (cI, 480, .inl co)), (y_away, .inl (cI, 480, .inl aw))])) (wD D A) A) ([.ref y, .int k, .int lf] : List Value).toArray s 0 0 A) (F0 m 147 ls [])) : ∀ (mN : Nat) (v : Int32), (rng fe 640 (0) (400)) → (rng go 640 (-1) (79)) → (0 ≤ v.toInt ∧ v.toInt ≤ 16) → (NB co aw fe go nS v.toInt) → ((16 - v.toInt).toNat < mN) → ∀ (H : Heap) (locs : List Loc) (ls : Array Slot), va_P D vwCl [(y, .inr (9, [.int m_thrown, .int m_status, .ref y_lane, .ref y_many, .ref y_item, .ref y_city, .ref y_fresh, .int m_isThere, .ref y_tape, .int m_taped, .int m_latest, .int m_length, .int m_cursor, .int m_token, .int m_start, .int m_till, .int m_fault, .int m_faultAt, .int m_seen, .int m_mirrors, .ref y_cost, .ref y_away, .ref y_fee, .ref y_goesTo, .ref y_priceWas, .ref y_isKept, .ref y_kept, .ref y_trace, .int m_traced])), (y_fee, .inl (cI, 640, .inl fe)), (y_goesTo, .inl (cI, 640, .inl go)), (y_cost, .inl (cI, 480, .inl co)), (y_away, .inl (cI, 480, .inl aw))] H → va_D A [(y, .inr (9, [.int m_thrown, .int m_status, .ref y_lane, .ref y_many, .ref y_item, .ref y_city, .ref y_fresh, .int m_isThere, .ref y_tape, .int m_taped, .int m_latest, .int m_length, .int m_cursor, .int m_token, .int m_start, .int m_till, .int m_fault, .int m_faultAt, .int m_seen, .int m_mirrors, .ref y_cost, .ref y_away, .ref y_fee, .ref y_goesTo, .ref y_priceWas, .ref y_isKept, .ref y_kept, .ref y_trace, .int m_traced])), (y_fee, .inl (cI, 640, .inl fe)), (y_goesTo, .inl (cI, 640, .inl go)), (y_cost, .inl (cI, 480, .inl co)), (y_away, .inl (cI, 480, .inl aw))] → va_S A s.heap H locs → lv_has ls 7 [(4, .int v), (3, .int kn), (0, .ref y), (1, .int k), (2, .int lf)] → W p l e (rmW 0 0 0 0) s m ([.ref y, .int k, .int lf] : List Value).toArray below meth c H locs 0 0 (MQ below (va_Qi (fun r w => ((0 ≤ r.toInt ∧ r.toInt < 16) ∧ (mtc co aw fe go nS r.toInt) ∧ w = [(y, .inr (9, [.int m_thrown, .int m_status, .ref y_lane, .ref y_many, .ref y_item, .ref y_city, .ref y_fresh, .int m_isThere, .ref y_tape, .int m_taped, .int m_latest, .int m_length, .int m_cursor, .int m_token, .int m_start, .int m_till, .int m_fault, .int m_faultAt, .int m_seen, .int m_mirrors, .ref y_cost, .ref y_away, .ref y_fee, .ref y_goesTo, .ref y_priceWas, .ref y_isKept, .ref y_kept, .ref y_trace, .int m_traced])), (y_fee, .inl (cI, 640, .inl fe)), (y_goesTo, .inl (cI, 640, .inl go)), (y_cost, .inl (cI, 480, .inl co)), (y_away, .inl (cI, 480, .inl aw))])) (wD D A) A) ([.ref y, .int k, .int lf] : List Value).toArray s 0 0 A) (F0 m 10 ls []) := by
  have S : CallFix p m c cX9_bestStep 7 s ([.ref y, .int k, .int lf] : List Value).toArray wsX9_bestStep RX9 := X.1
  have iX9 := jX9_bestStep_X9
  intro mN
  induction mN with
  | zero => intro v hrg_fe hrg_go hv hnb hm; exact absurd hm (Nat.not_lt_zero _)
  | succ mN ih =>
    intro v hrg_fe hrg_go hv hnb hm H locs ls hP hD hS hl
    refine lv_iload S.1 S.2.1 dX9_bestStep_10 (lv_at hl 0 rfl) ?_
    refine lv_bipush (v := (16)) S.1 S.2.1 dX9_bestStep_12 (by decide) ?_
    refine lv_icmp_ge (tgt := 147) S.1 S.2.1 dX9_bestStep_14 (by decide) (fun c_101 => ?_) (fun c_101 => ?_)
    · rw [le2 (a := 16) (b := v) (A := 16) (B := v.toInt) rfl rfl] at c_101
      exact K v (by first | with_reducible assumption | assumption | omega | decide | (rw [show Int32.toInt 0 = 0 from rfl]; omega)) (by first | with_reducible assumption | assumption | omega | decide | (rw [show Int32.toInt 0 = 0 from rfl]; omega)) (by first | with_reducible assumption | decide | (and_intros <;> first | with_reducible assumption | (intros; refine Int.le_antisymm ?_ ?_ <;> omega) | omega) | assumption | (rw [show Int32.toInt 0 = 0 from rfl]; omega)) (by first | exact NB_s hnb (by first | (and_intros <;> first | with_reducible assumption | (refine Int.le_antisymm ?_ ?_ <;> omega) | omega) | omega) (fun hb => by unfold mtc at hb; first | omega | (rw [fc_hi (by first | (and_intros <;> first | with_reducible assumption | (refine Int.le_antisymm ?_ ?_ <;> omega) | omega) | omega)] at hb; omega)) | assumption) (by first | with_reducible assumption | decide | (and_intros <;> first | with_reducible assumption | (intros; refine Int.le_antisymm ?_ ?_ <;> omega) | omega) | assumption | (rw [show Int32.toInt 0 = 0 from rfl]; omega)) H _ ls hP hD hS (lv_sub hl [0, 1, 2, 3, 4] rfl)
    · rw [le2 (a := 16) (b := v) (A := 16) (B := v.toInt) rfl rfl] at c_101
      refine lv_aload_n S.1 S.2.1 dX9_bestStep_17 rfl (lv_at hl 2 rfl) ?_
      refine b_get (v := .ref y_goesTo) S iX9 hK hP 0 rfl rfl 23 (by decide) (by decide +kernel) rfl dX9_bestStep_18 ?_
      refine lv_bipush (v := (8)) S.1 S.2.1 dX9_bestStep_21 (by decide) ?_
      refine lv_iload_n S.1 S.2.1 dX9_bestStep_23 rfl (lv_at hl 3 rfl) ?_
      refine lv_imul S.1 S.2.1 dX9_bestStep_24 ?_
      refine lv_topi (fun x_102 ex_102 => ?_)
      have tx_102 : x_102.toInt = 8 * k.toInt := mulI (A := 8) (B := k.toInt) ex_102 rfl rfl (by  omega) (by  omega)
      refine lv_iload S.1 S.2.1 dX9_bestStep_25 (lv_at hl 0 rfl) ?_
      refine lv_bipush (v := (8)) S.1 S.2.1 dX9_bestStep_27 (by decide) ?_
      refine lv_irem S.1 S.2.1 dX9_bestStep_29 (by decide) ?_
      refine lv_topi (fun x_103 ex_103 => ?_)
      have tx_103 : x_103.toInt = v.toInt % 8 := remI (A := v.toInt) (B := 8) ex_103 rfl rfl (by  omega) (by decide)
      refine lv_iadd S.1 S.2.1 dX9_bestStep_30 ?_
      refine lv_topi (fun x_104 ex_104 => ?_)
      have tx_104 : x_104.toInt = x_102.toInt + (x_103.toInt) := addI (A := x_102.toInt) (B := x_103.toInt) ex_104 rfl rfl (by  omega) (by  omega)
      have hin_105 : vp_in x_104 640 := (in_of (n := 640) (by  omega) (by  omega))
      refine va_iald S.1 S.2.1 hK.1 hP 2 0 rfl rfl hin_105 dX9_bestStep_31 ?_
      refine lv_topi (fun x_106 ex_106 => ?_)
      have tx_106 := rng_get (x := x_106) (show rng go 640 (-1) (79) by assumption) hin_105 ex_106
      have bx_106 : x_106.toInt = gt go (nS % 80) v.toInt := by rw [ex_106]; show (go (x_104).toInt.toNat).toInt = (go (8 * (nS % 80) + v.toInt % 8).toNat).toInt; rw [show (x_104).toInt = 8 * (nS % 80) + v.toInt % 8 from by omega]
      refine lv_istore (lv' := [(5, .int x_106), (4, .int v), (3, .int kn), (0, .ref y), (1, .int k), (2, .int lf)]) S.1 S.2.1 dX9_bestStep_32 hl (by decide) rfl (fun ls hl => ?_)
      refine lv_iload S.1 S.2.1 dX9_bestStep_34 (lv_at hl 0 rfl) ?_
      refine lv_bipush (v := (80)) S.1 S.2.1 dX9_bestStep_36 (by decide) ?_
      refine lv_iload_n S.1 S.2.1 dX9_bestStep_38 rfl (lv_at hl 5 rfl) ?_
      refine lv_imul S.1 S.2.1 dX9_bestStep_39 ?_
      refine lv_topi (fun x_107 ex_107 => ?_)
      have tx_107 : x_107.toInt = 80 * lf.toInt := mulI (A := 80) (B := lf.toInt) ex_107 rfl rfl (by  omega) (by  omega)
      refine lv_iadd S.1 S.2.1 dX9_bestStep_40 ?_
      refine lv_topi (fun x_108 ex_108 => ?_)
      have tx_108 : x_108.toInt = x_106.toInt + (x_107.toInt) := addI (A := x_106.toInt) (B := x_107.toInt) ex_108 rfl rfl (by  omega) (by  omega)
      refine lv_iload S.1 S.2.1 dX9_bestStep_41 (lv_at hl 1 rfl) ?_
      refine lv_bipush (v := (8)) S.1 S.2.1 dX9_bestStep_43 (by decide) ?_
      refine lv_icmp_ge (tgt := 52) S.1 S.2.1 dX9_bestStep_45 (by decide) (fun c_109 => ?_) (fun c_109 => ?_)
      · rw [le2 (a := 8) (b := v) (A := 8) (B := v.toInt) rfl rfl] at c_109
        refine lv_bipush (v := (80)) S.1 S.2.1 dX9_bestStep_52 (by decide) ?_
        refine lv_isub S.1 S.2.1 dX9_bestStep_54 ?_
        refine lv_topi (fun x_110 ex_110 => ?_)
        have tx_110 : x_110.toInt = x_108.toInt - (80) := subI (A := x_108.toInt) (B := 80) ex_110 rfl rfl (by  omega) (by  omega)
        refine lv_istore (lv' := [(6, .int x_110), (5, .int x_106), (4, .int v), (3, .int kn), (0, .ref y), (1, .int k), (2, .int lf)]) S.1 S.2.1 dX9_bestStep_55 hl (by decide) rfl (fun ls hl => ?_)
        have hth : x_110.toInt = th go nS v.toInt := by first | (rw [th_lo (by first | (and_intros <;> first | with_reducible assumption | (refine Int.le_antisymm ?_ ?_ <;> omega) | omega) | omega)]; omega) | (rw [th_hi (by first | (and_intros <;> first | with_reducible assumption | (refine Int.le_antisymm ?_ ?_ <;> omega) | omega) | omega)]; omega)
        refine lv_iload S.1 S.2.1 dX9_bestStep_57 (lv_at hl 1 rfl) ?_
        refine lv_if_lt (tgt := 141) S.1 S.2.1 dX9_bestStep_59 (by decide) (fun c_111 => ?_) (fun c_111 => ?_)
        · rw [lt2 (a := x_106) (b := 0) (A := x_106.toInt) (B := 0) rfl rfl] at c_111
          obtain ⟨x_112, ex_112⟩ : ∃ y : Int32, y = v + Int32.ofInt (1) := ⟨_, rfl⟩
          refine lv_iinc (v := x_112) (lv' := [(4, .int x_112), (6, .int x_110), (5, .int x_106), (3, .int kn), (0, .ref y), (1, .int k), (2, .int lf)]) S.1 S.2.1 dX9_bestStep_141 hl (k := 2) rfl ex_112.symm (by decide) rfl (fun ls hl => ?_)
          have tx_112 : x_112.toInt = v.toInt + (1) := addI (A := v.toInt) (B := 1) ex_112 rfl rfl (by  omega) (by  omega)
          refine lv_goto (tgt := 10) S.1 S.2.1 dX9_bestStep_144 (by decide) ?_
          exact ih x_112 (by first | with_reducible assumption | assumption | omega | decide | (rw [show Int32.toInt 0 = 0 from rfl]; omega)) (by first | with_reducible assumption | assumption | omega | decide | (rw [show Int32.toInt 0 = 0 from rfl]; omega)) (by first | with_reducible assumption | decide | (and_intros <;> first | with_reducible assumption | (intros; refine Int.le_antisymm ?_ ?_ <;> omega) | omega) | assumption | (rw [show Int32.toInt 0 = 0 from rfl]; omega)) (by first | exact NB_s hnb (by first | (and_intros <;> first | with_reducible assumption | (refine Int.le_antisymm ?_ ?_ <;> omega) | omega) | omega) (fun hb => by unfold mtc at hb; first | omega | (rw [fc_hi (by first | (and_intros <;> first | with_reducible assumption | (refine Int.le_antisymm ?_ ?_ <;> omega) | omega) | omega)] at hb; omega)) | assumption) (by first | (and_intros <;> first | with_reducible assumption | (refine Int.le_antisymm ?_ ?_ <;> omega) | omega) | omega) H _ ls hP hD hS (lv_sub hl [0, 3, 4, 5, 6] rfl)
        · rw [lt2 (a := x_106) (b := 0) (A := x_106.toInt) (B := 0) rfl rfl] at c_111
          refine lv_iload S.1 S.2.1 dX9_bestStep_62 (lv_at hl 0 rfl) ?_
          refine lv_if_lt (tgt := 141) S.1 S.2.1 dX9_bestStep_64 (by decide) (fun c_113 => ?_) (fun c_113 => ?_)
          · rw [lt2 (a := x_110) (b := 0) (A := x_110.toInt) (B := 0) rfl rfl] at c_113
            obtain ⟨x_114, ex_114⟩ : ∃ y : Int32, y = v + Int32.ofInt (1) := ⟨_, rfl⟩
            refine lv_iinc (v := x_114) (lv' := [(4, .int x_114), (6, .int x_110), (5, .int x_106), (3, .int kn), (0, .ref y), (1, .int k), (2, .int lf)]) S.1 S.2.1 dX9_bestStep_141 hl (k := 2) rfl ex_114.symm (by decide) rfl (fun ls hl => ?_)
            have tx_114 : x_114.toInt = v.toInt + (1) := addI (A := v.toInt) (B := 1) ex_114 rfl rfl (by  omega) (by  omega)
            refine lv_goto (tgt := 10) S.1 S.2.1 dX9_bestStep_144 (by decide) ?_
            exact ih x_114 (by first | with_reducible assumption | assumption | omega | decide | (rw [show Int32.toInt 0 = 0 from rfl]; omega)) (by first | with_reducible assumption | assumption | omega | decide | (rw [show Int32.toInt 0 = 0 from rfl]; omega)) (by first | with_reducible assumption | decide | (and_intros <;> first | with_reducible assumption | (intros; refine Int.le_antisymm ?_ ?_ <;> omega) | omega) | assumption | (rw [show Int32.toInt 0 = 0 from rfl]; omega)) (by first | exact NB_s hnb (by first | (and_intros <;> first | with_reducible assumption | (refine Int.le_antisymm ?_ ?_ <;> omega) | omega) | omega) (fun hb => by unfold mtc at hb; first | omega | (rw [fc_hi (by first | (and_intros <;> first | with_reducible assumption | (refine Int.le_antisymm ?_ ?_ <;> omega) | omega) | omega)] at hb; omega)) | assumption) (by first | (and_intros <;> first | with_reducible assumption | (refine Int.le_antisymm ?_ ?_ <;> omega) | omega) | omega) H _ ls hP hD hS (lv_sub hl [0, 3, 4, 5, 6] rfl)
          · rw [lt2 (a := x_110) (b := 0) (A := x_110.toInt) (B := 0) rfl rfl] at c_113
            have hTT := LBn_nn (hLB (th go nS v.toInt) (by first | (and_intros <;> first | with_reducible assumption | (refine Int.le_antisymm ?_ ?_ <;> omega) | omega) | omega) (by first | (and_intros <;> first | with_reducible assumption | (refine Int.le_antisymm ?_ ?_ <;> omega) | omega) | omega))
            refine lv_aload_n S.1 S.2.1 dX9_bestStep_67 rfl (lv_at hl 4 rfl) ?_
            refine b_get (v := .ref y_cost) S iX9 hK hP 0 rfl rfl 20 (by decide) (by decide +kernel) rfl dX9_bestStep_68 ?_
            refine lv_iload S.1 S.2.1 dX9_bestStep_71 (lv_at hl 0 rfl) ?_
            have hin_115 : vp_in x_110 480 := (in_of (n := 480) (by  omega) (by  omega))
            refine va_iald S.1 S.2.1 hK.1 hP 3 0 rfl rfl hin_115 dX9_bestStep_73 ?_
            refine lv_topi (fun x_116 ex_116 => ?_)
            have bx_116 : x_116.toInt = cv co (th go nS v.toInt) := by rw [ex_116]; show (co (x_110).toInt.toNat).toInt = (co (th go nS v.toInt).toNat).toInt; rw [show (x_110).toInt = th go nS v.toInt from by omega]
            refine lv_ldcw (v := (268435456)) S.1 S.2.1 S.2.2.2.1 (S.2.2.2.2 (.constant RX9 266 (268435456)) (by decide +kernel)) dX9_bestStep_74 ?_
            refine lv_icmp_ge (tgt := 141) S.1 S.2.1 dX9_bestStep_77 (by decide) (fun c_117 => ?_) (fun c_117 => ?_)
            · rw [le2 (a := 268435456) (b := x_116) (A := 268435456) (B := x_116.toInt) rfl rfl] at c_117
              obtain ⟨x_118, ex_118⟩ : ∃ y : Int32, y = v + Int32.ofInt (1) := ⟨_, rfl⟩
              refine lv_iinc (v := x_118) (lv' := [(4, .int x_118), (6, .int x_110), (5, .int x_106), (3, .int kn), (0, .ref y), (1, .int k), (2, .int lf)]) S.1 S.2.1 dX9_bestStep_141 hl (k := 2) rfl ex_118.symm (by decide) rfl (fun ls hl => ?_)
              have tx_118 : x_118.toInt = v.toInt + (1) := addI (A := v.toInt) (B := 1) ex_118 rfl rfl (by  omega) (by  omega)
              refine lv_goto (tgt := 10) S.1 S.2.1 dX9_bestStep_144 (by decide) ?_
              exact ih x_118 (by first | with_reducible assumption | assumption | omega | decide | (rw [show Int32.toInt 0 = 0 from rfl]; omega)) (by first | with_reducible assumption | assumption | omega | decide | (rw [show Int32.toInt 0 = 0 from rfl]; omega)) (by first | with_reducible assumption | decide | (and_intros <;> first | with_reducible assumption | (intros; refine Int.le_antisymm ?_ ?_ <;> omega) | omega) | assumption | (rw [show Int32.toInt 0 = 0 from rfl]; omega)) (by first | exact NB_s hnb (by first | (and_intros <;> first | with_reducible assumption | (refine Int.le_antisymm ?_ ?_ <;> omega) | omega) | omega) (fun hb => by unfold mtc at hb; first | omega | (rw [fc_hi (by first | (and_intros <;> first | with_reducible assumption | (refine Int.le_antisymm ?_ ?_ <;> omega) | omega) | omega)] at hb; omega)) | assumption) (by first | (and_intros <;> first | with_reducible assumption | (refine Int.le_antisymm ?_ ?_ <;> omega) | omega) | omega) H _ ls hP hD hS (lv_sub hl [0, 3, 4, 5, 6] rfl)
            · rw [le2 (a := 268435456) (b := x_116) (A := 268435456) (B := x_116.toInt) rfl rfl] at c_117
              refine lv_aload_n S.1 S.2.1 dX9_bestStep_80 rfl (lv_at hl 4 rfl) ?_
              refine b_get (v := .ref y_cost) S iX9 hK hP 0 rfl rfl 20 (by decide) (by decide +kernel) rfl dX9_bestStep_81 ?_
              refine lv_iload S.1 S.2.1 dX9_bestStep_84 (lv_at hl 0 rfl) ?_
              have hin_119 : vp_in x_110 480 := (in_of (n := 480) (by  omega) (by  omega))
              refine va_iald S.1 S.2.1 hK.1 hP 3 0 rfl rfl hin_119 dX9_bestStep_86 ?_
              refine lv_topi (fun x_120 ex_120 => ?_)
              have bx_120 : x_120.toInt = cv co (th go nS v.toInt) := by rw [ex_120]; show (co (x_110).toInt.toNat).toInt = (co (th go nS v.toInt).toNat).toInt; rw [show (x_110).toInt = th go nS v.toInt from by omega]
              have lx_120 : x_120.toInt = x_116.toInt := by rw [ex_120, ex_116]
              refine lv_iload S.1 S.2.1 dX9_bestStep_87 (lv_at hl 2 rfl) ?_
              refine lv_bipush (v := (8)) S.1 S.2.1 dX9_bestStep_89 (by decide) ?_
              refine lv_icmp_ge (tgt := 109) S.1 S.2.1 dX9_bestStep_91 (by decide) (fun c_121 => ?_) (fun c_121 => ?_)
              · rw [le2 (a := 8) (b := v) (A := 8) (B := v.toInt) rfl rfl] at c_121
                refine lv_iconst (v := (0)) S.1 S.2.1 dX9_bestStep_109 (by decide) ?_
                refine lv_iadd S.1 S.2.1 dX9_bestStep_110 ?_
                refine lv_topi (fun x_122 ex_122 => ?_)
                have tx_122 : x_122.toInt = x_120.toInt + (0) := addI (A := x_120.toInt) (B := 0) ex_122 rfl rfl (by  omega) (by  omega)
                refine lv_aload_n S.1 S.2.1 dX9_bestStep_111 rfl (lv_at hl 4 rfl) ?_
                refine b_get (v := .ref y_cost) S iX9 hK hP 0 rfl rfl 20 (by decide) (by decide +kernel) rfl dX9_bestStep_112 ?_
                refine lv_iload_n S.1 S.2.1 dX9_bestStep_115 rfl (lv_at hl 3 rfl) ?_
                have hin_123 : vp_in kn 480 := (in_of (n := 480) (by  omega) (by  omega))
                refine va_iald S.1 S.2.1 hK.1 hP 3 0 rfl rfl hin_123 dX9_bestStep_116 ?_
                refine lv_topi (fun x_124 ex_124 => ?_)
                have bx_124 : x_124.toInt = cv co nS := by rw [ex_124]; show (co (kn).toInt.toNat).toInt = (co (nS).toNat).toInt; rw [show (kn).toInt = nS from by omega]
                refine lv_icmp_ne (tgt := 141) S.1 S.2.1 dX9_bestStep_117 (by decide) (fun c_125 => ?_) (fun c_125 => ?_)
                · rw [eq2 (a := x_122) (b := x_124) (A := x_122.toInt) (B := x_124.toInt) rfl rfl] at c_125
                  obtain ⟨x_126, ex_126⟩ : ∃ y : Int32, y = v + Int32.ofInt (1) := ⟨_, rfl⟩
                  refine lv_iinc (v := x_126) (lv' := [(4, .int x_126), (6, .int x_110), (5, .int x_106), (3, .int kn), (0, .ref y), (1, .int k), (2, .int lf)]) S.1 S.2.1 dX9_bestStep_141 hl (k := 2) rfl ex_126.symm (by decide) rfl (fun ls hl => ?_)
                  have tx_126 : x_126.toInt = v.toInt + (1) := addI (A := v.toInt) (B := 1) ex_126 rfl rfl (by  omega) (by  omega)
                  refine lv_goto (tgt := 10) S.1 S.2.1 dX9_bestStep_144 (by decide) ?_
                  exact ih x_126 (by first | with_reducible assumption | assumption | omega | decide | (rw [show Int32.toInt 0 = 0 from rfl]; omega)) (by first | with_reducible assumption | assumption | omega | decide | (rw [show Int32.toInt 0 = 0 from rfl]; omega)) (by first | with_reducible assumption | decide | (and_intros <;> first | with_reducible assumption | (intros; refine Int.le_antisymm ?_ ?_ <;> omega) | omega) | assumption | (rw [show Int32.toInt 0 = 0 from rfl]; omega)) (by first | exact NB_s hnb (by first | (and_intros <;> first | with_reducible assumption | (refine Int.le_antisymm ?_ ?_ <;> omega) | omega) | omega) (fun hb => by unfold mtc at hb; first | omega | (rw [fc_hi (by first | (and_intros <;> first | with_reducible assumption | (refine Int.le_antisymm ?_ ?_ <;> omega) | omega) | omega)] at hb; omega)) | assumption) (by first | (and_intros <;> first | with_reducible assumption | (refine Int.le_antisymm ?_ ?_ <;> omega) | omega) | omega) H _ ls hP hD hS (lv_sub hl [0, 3, 4, 5, 6] rfl)
                · rw [eq2 (a := x_122) (b := x_124) (A := x_122.toInt) (B := x_124.toInt) rfl rfl] at c_125
                  refine lv_aload_n S.1 S.2.1 dX9_bestStep_120 rfl (lv_at hl 4 rfl) ?_
                  refine b_get (v := .ref y_away) S iX9 hK hP 0 rfl rfl 21 (by decide) (by decide +kernel) rfl dX9_bestStep_121 ?_
                  refine lv_iload S.1 S.2.1 dX9_bestStep_124 (lv_at hl 0 rfl) ?_
                  have hin_127 : vp_in x_110 480 := (in_of (n := 480) (by  omega) (by  omega))
                  refine va_iald S.1 S.2.1 hK.1 hP 4 0 rfl rfl hin_127 dX9_bestStep_126 ?_
                  refine lv_topi (fun x_128 ex_128 => ?_)
                  have bx_128 : x_128.toInt = cv aw (th go nS v.toInt) := by rw [ex_128]; show (aw (x_110).toInt.toNat).toInt = (aw (th go nS v.toInt).toNat).toInt; rw [show (x_110).toInt = th go nS v.toInt from by omega]
                  refine lv_iconst (v := (1)) S.1 S.2.1 dX9_bestStep_127 (by decide) ?_
                  refine lv_iadd S.1 S.2.1 dX9_bestStep_128 ?_
                  refine lv_topi (fun x_129 ex_129 => ?_)
                  have tx_129 : x_129.toInt = x_128.toInt + (1) := addI (A := x_128.toInt) (B := 1) ex_129 rfl rfl (by  omega) (by  omega)
                  refine lv_aload_n S.1 S.2.1 dX9_bestStep_129 rfl (lv_at hl 4 rfl) ?_
                  refine b_get (v := .ref y_away) S iX9 hK hP 0 rfl rfl 21 (by decide) (by decide +kernel) rfl dX9_bestStep_130 ?_
                  refine lv_iload_n S.1 S.2.1 dX9_bestStep_133 rfl (lv_at hl 3 rfl) ?_
                  have hin_130 : vp_in kn 480 := (in_of (n := 480) (by  omega) (by  omega))
                  refine va_iald S.1 S.2.1 hK.1 hP 4 0 rfl rfl hin_130 dX9_bestStep_134 ?_
                  refine lv_topi (fun x_131 ex_131 => ?_)
                  have bx_131 : x_131.toInt = cv aw nS := by rw [ex_131]; show (aw (kn).toInt.toNat).toInt = (aw (nS).toNat).toInt; rw [show (kn).toInt = nS from by omega]
                  refine lv_icmp_ne (tgt := 141) S.1 S.2.1 dX9_bestStep_135 (by decide) (fun c_132 => ?_) (fun c_132 => ?_)
                  · rw [eq2 (a := x_129) (b := x_131) (A := x_129.toInt) (B := x_131.toInt) rfl rfl] at c_132
                    obtain ⟨x_133, ex_133⟩ : ∃ y : Int32, y = v + Int32.ofInt (1) := ⟨_, rfl⟩
                    refine lv_iinc (v := x_133) (lv' := [(4, .int x_133), (6, .int x_110), (5, .int x_106), (3, .int kn), (0, .ref y), (1, .int k), (2, .int lf)]) S.1 S.2.1 dX9_bestStep_141 hl (k := 2) rfl ex_133.symm (by decide) rfl (fun ls hl => ?_)
                    have tx_133 : x_133.toInt = v.toInt + (1) := addI (A := v.toInt) (B := 1) ex_133 rfl rfl (by  omega) (by  omega)
                    refine lv_goto (tgt := 10) S.1 S.2.1 dX9_bestStep_144 (by decide) ?_
                    exact ih x_133 (by first | with_reducible assumption | assumption | omega | decide | (rw [show Int32.toInt 0 = 0 from rfl]; omega)) (by first | with_reducible assumption | assumption | omega | decide | (rw [show Int32.toInt 0 = 0 from rfl]; omega)) (by first | with_reducible assumption | decide | (and_intros <;> first | with_reducible assumption | (intros; refine Int.le_antisymm ?_ ?_ <;> omega) | omega) | assumption | (rw [show Int32.toInt 0 = 0 from rfl]; omega)) (by first | exact NB_s hnb (by first | (and_intros <;> first | with_reducible assumption | (refine Int.le_antisymm ?_ ?_ <;> omega) | omega) | omega) (fun hb => by unfold mtc at hb; first | omega | (rw [fc_hi (by first | (and_intros <;> first | with_reducible assumption | (refine Int.le_antisymm ?_ ?_ <;> omega) | omega) | omega)] at hb; omega)) | assumption) (by first | (and_intros <;> first | with_reducible assumption | (refine Int.le_antisymm ?_ ?_ <;> omega) | omega) | omega) H _ ls hP hD hS (lv_sub hl [0, 3, 4, 5, 6] rfl)
                  · rw [eq2 (a := x_129) (b := x_131) (A := x_129.toInt) (B := x_131.toInt) rfl rfl] at c_132
                    refine lv_iload S.1 S.2.1 dX9_bestStep_138 (lv_at hl 2 rfl) ?_
                    exact b_iret S.1 S.2.1 X.2.1 X.2.2.1 hP hD hS ⟨(by first | with_reducible assumption | decide | (and_intros <;> first | with_reducible assumption | (intros; refine Int.le_antisymm ?_ ?_ <;> omega) | omega) | assumption | (rw [show Int32.toInt 0 = 0 from rfl]; omega)), (by first | exact ⟨by omega, by omega, by omega, by omega, by omega⟩ | exact ⟨by omega, by omega, by omega, by rw [fc_hi (by first | (and_intros <;> first | with_reducible assumption | (refine Int.le_antisymm ?_ ?_ <;> omega) | omega) | omega)]; omega, by omega⟩), rfl⟩ dX9_bestStep_140
              · rw [le2 (a := 8) (b := v) (A := 8) (B := v.toInt) rfl rfl] at c_121
                refine lv_aload_n S.1 S.2.1 dX9_bestStep_94 rfl (lv_at hl 4 rfl) ?_
                refine b_get (v := .ref y_fee) S iX9 hK hP 0 rfl rfl 22 (by decide) (by decide +kernel) rfl dX9_bestStep_95 ?_
                refine lv_bipush (v := (8)) S.1 S.2.1 dX9_bestStep_98 (by decide) ?_
                refine lv_iload_n S.1 S.2.1 dX9_bestStep_100 rfl (lv_at hl 5 rfl) ?_
                refine lv_imul S.1 S.2.1 dX9_bestStep_101 ?_
                refine lv_topi (fun x_134 ex_134 => ?_)
                have tx_134 : x_134.toInt = 8 * k.toInt := mulI (A := 8) (B := k.toInt) ex_134 rfl rfl (by  omega) (by  omega)
                refine lv_iload S.1 S.2.1 dX9_bestStep_102 (lv_at hl 2 rfl) ?_
                refine lv_iadd S.1 S.2.1 dX9_bestStep_104 ?_
                refine lv_topi (fun x_135 ex_135 => ?_)
                have tx_135 : x_135.toInt = x_134.toInt + (v.toInt) := addI (A := x_134.toInt) (B := v.toInt) ex_135 rfl rfl (by  omega) (by  omega)
                have hin_136 : vp_in x_135 640 := (in_of (n := 640) (by  omega) (by  omega))
                refine va_iald S.1 S.2.1 hK.1 hP 1 0 rfl rfl hin_136 dX9_bestStep_105 ?_
                refine lv_topi (fun x_137 ex_137 => ?_)
                have tx_137 := rng_get (x := x_137) (show rng fe 640 (0) (400) by assumption) hin_136 ex_137
                have bx_137 : x_137.toInt = fc fe nS v.toInt := by rw [fc_lo (by first | (and_intros <;> first | with_reducible assumption | (refine Int.le_antisymm ?_ ?_ <;> omega) | omega) | omega), ex_137]; show (fe (x_135).toInt.toNat).toInt = (fe (8 * (nS % 80) + v.toInt).toNat).toInt; rw [show (x_135).toInt = 8 * (nS % 80) + v.toInt from by omega]
                refine lv_goto (tgt := 110) S.1 S.2.1 dX9_bestStep_106 (by decide) ?_
                refine lv_iadd S.1 S.2.1 dX9_bestStep_110 ?_
                refine lv_topi (fun x_138 ex_138 => ?_)
                have tx_138 : x_138.toInt = x_120.toInt + (x_137.toInt) := addI (A := x_120.toInt) (B := x_137.toInt) ex_138 rfl rfl (by  omega) (by  omega)
                refine lv_aload_n S.1 S.2.1 dX9_bestStep_111 rfl (lv_at hl 4 rfl) ?_
                refine b_get (v := .ref y_cost) S iX9 hK hP 0 rfl rfl 20 (by decide) (by decide +kernel) rfl dX9_bestStep_112 ?_
                refine lv_iload_n S.1 S.2.1 dX9_bestStep_115 rfl (lv_at hl 3 rfl) ?_
                have hin_139 : vp_in kn 480 := (in_of (n := 480) (by  omega) (by  omega))
                refine va_iald S.1 S.2.1 hK.1 hP 3 0 rfl rfl hin_139 dX9_bestStep_116 ?_
                refine lv_topi (fun x_140 ex_140 => ?_)
                have bx_140 : x_140.toInt = cv co nS := by rw [ex_140]; show (co (kn).toInt.toNat).toInt = (co (nS).toNat).toInt; rw [show (kn).toInt = nS from by omega]
                refine lv_icmp_ne (tgt := 141) S.1 S.2.1 dX9_bestStep_117 (by decide) (fun c_141 => ?_) (fun c_141 => ?_)
                · rw [eq2 (a := x_138) (b := x_140) (A := x_138.toInt) (B := x_140.toInt) rfl rfl] at c_141
                  obtain ⟨x_142, ex_142⟩ : ∃ y : Int32, y = v + Int32.ofInt (1) := ⟨_, rfl⟩
                  refine lv_iinc (v := x_142) (lv' := [(4, .int x_142), (6, .int x_110), (5, .int x_106), (3, .int kn), (0, .ref y), (1, .int k), (2, .int lf)]) S.1 S.2.1 dX9_bestStep_141 hl (k := 2) rfl ex_142.symm (by decide) rfl (fun ls hl => ?_)
                  have tx_142 : x_142.toInt = v.toInt + (1) := addI (A := v.toInt) (B := 1) ex_142 rfl rfl (by  omega) (by  omega)
                  refine lv_goto (tgt := 10) S.1 S.2.1 dX9_bestStep_144 (by decide) ?_
                  exact ih x_142 (by first | with_reducible assumption | assumption | omega | decide | (rw [show Int32.toInt 0 = 0 from rfl]; omega)) (by first | with_reducible assumption | assumption | omega | decide | (rw [show Int32.toInt 0 = 0 from rfl]; omega)) (by first | with_reducible assumption | decide | (and_intros <;> first | with_reducible assumption | (intros; refine Int.le_antisymm ?_ ?_ <;> omega) | omega) | assumption | (rw [show Int32.toInt 0 = 0 from rfl]; omega)) (by first | exact NB_s hnb (by first | (and_intros <;> first | with_reducible assumption | (refine Int.le_antisymm ?_ ?_ <;> omega) | omega) | omega) (fun hb => by unfold mtc at hb; first | omega | (rw [fc_hi (by first | (and_intros <;> first | with_reducible assumption | (refine Int.le_antisymm ?_ ?_ <;> omega) | omega) | omega)] at hb; omega)) | assumption) (by first | (and_intros <;> first | with_reducible assumption | (refine Int.le_antisymm ?_ ?_ <;> omega) | omega) | omega) H _ ls hP hD hS (lv_sub hl [0, 3, 4, 5, 6] rfl)
                · rw [eq2 (a := x_138) (b := x_140) (A := x_138.toInt) (B := x_140.toInt) rfl rfl] at c_141
                  refine lv_aload_n S.1 S.2.1 dX9_bestStep_120 rfl (lv_at hl 4 rfl) ?_
                  refine b_get (v := .ref y_away) S iX9 hK hP 0 rfl rfl 21 (by decide) (by decide +kernel) rfl dX9_bestStep_121 ?_
                  refine lv_iload S.1 S.2.1 dX9_bestStep_124 (lv_at hl 0 rfl) ?_
                  have hin_143 : vp_in x_110 480 := (in_of (n := 480) (by  omega) (by  omega))
                  refine va_iald S.1 S.2.1 hK.1 hP 4 0 rfl rfl hin_143 dX9_bestStep_126 ?_
                  refine lv_topi (fun x_144 ex_144 => ?_)
                  have bx_144 : x_144.toInt = cv aw (th go nS v.toInt) := by rw [ex_144]; show (aw (x_110).toInt.toNat).toInt = (aw (th go nS v.toInt).toNat).toInt; rw [show (x_110).toInt = th go nS v.toInt from by omega]
                  refine lv_iconst (v := (1)) S.1 S.2.1 dX9_bestStep_127 (by decide) ?_
                  refine lv_iadd S.1 S.2.1 dX9_bestStep_128 ?_
                  refine lv_topi (fun x_145 ex_145 => ?_)
                  have tx_145 : x_145.toInt = x_144.toInt + (1) := addI (A := x_144.toInt) (B := 1) ex_145 rfl rfl (by  omega) (by  omega)
                  refine lv_aload_n S.1 S.2.1 dX9_bestStep_129 rfl (lv_at hl 4 rfl) ?_
                  refine b_get (v := .ref y_away) S iX9 hK hP 0 rfl rfl 21 (by decide) (by decide +kernel) rfl dX9_bestStep_130 ?_
                  refine lv_iload_n S.1 S.2.1 dX9_bestStep_133 rfl (lv_at hl 3 rfl) ?_
                  have hin_146 : vp_in kn 480 := (in_of (n := 480) (by  omega) (by  omega))
                  refine va_iald S.1 S.2.1 hK.1 hP 4 0 rfl rfl hin_146 dX9_bestStep_134 ?_
                  refine lv_topi (fun x_147 ex_147 => ?_)
                  have bx_147 : x_147.toInt = cv aw nS := by rw [ex_147]; show (aw (kn).toInt.toNat).toInt = (aw (nS).toNat).toInt; rw [show (kn).toInt = nS from by omega]
                  refine lv_icmp_ne (tgt := 141) S.1 S.2.1 dX9_bestStep_135 (by decide) (fun c_148 => ?_) (fun c_148 => ?_)
                  · rw [eq2 (a := x_145) (b := x_147) (A := x_145.toInt) (B := x_147.toInt) rfl rfl] at c_148
                    obtain ⟨x_149, ex_149⟩ : ∃ y : Int32, y = v + Int32.ofInt (1) := ⟨_, rfl⟩
                    refine lv_iinc (v := x_149) (lv' := [(4, .int x_149), (6, .int x_110), (5, .int x_106), (3, .int kn), (0, .ref y), (1, .int k), (2, .int lf)]) S.1 S.2.1 dX9_bestStep_141 hl (k := 2) rfl ex_149.symm (by decide) rfl (fun ls hl => ?_)
                    have tx_149 : x_149.toInt = v.toInt + (1) := addI (A := v.toInt) (B := 1) ex_149 rfl rfl (by  omega) (by  omega)
                    refine lv_goto (tgt := 10) S.1 S.2.1 dX9_bestStep_144 (by decide) ?_
                    exact ih x_149 (by first | with_reducible assumption | assumption | omega | decide | (rw [show Int32.toInt 0 = 0 from rfl]; omega)) (by first | with_reducible assumption | assumption | omega | decide | (rw [show Int32.toInt 0 = 0 from rfl]; omega)) (by first | with_reducible assumption | decide | (and_intros <;> first | with_reducible assumption | (intros; refine Int.le_antisymm ?_ ?_ <;> omega) | omega) | assumption | (rw [show Int32.toInt 0 = 0 from rfl]; omega)) (by first | exact NB_s hnb (by first | (and_intros <;> first | with_reducible assumption | (refine Int.le_antisymm ?_ ?_ <;> omega) | omega) | omega) (fun hb => by unfold mtc at hb; first | omega | (rw [fc_hi (by first | (and_intros <;> first | with_reducible assumption | (refine Int.le_antisymm ?_ ?_ <;> omega) | omega) | omega)] at hb; omega)) | assumption) (by first | (and_intros <;> first | with_reducible assumption | (refine Int.le_antisymm ?_ ?_ <;> omega) | omega) | omega) H _ ls hP hD hS (lv_sub hl [0, 3, 4, 5, 6] rfl)
                  · rw [eq2 (a := x_145) (b := x_147) (A := x_145.toInt) (B := x_147.toInt) rfl rfl] at c_148
                    refine lv_iload S.1 S.2.1 dX9_bestStep_138 (lv_at hl 2 rfl) ?_
                    exact b_iret S.1 S.2.1 X.2.1 X.2.2.1 hP hD hS ⟨(by first | with_reducible assumption | decide | (and_intros <;> first | with_reducible assumption | (intros; refine Int.le_antisymm ?_ ?_ <;> omega) | omega) | assumption | (rw [show Int32.toInt 0 = 0 from rfl]; omega)), (by first | exact ⟨by omega, by omega, by omega, by omega, by omega⟩ | exact ⟨by omega, by omega, by omega, by rw [fc_hi (by first | (and_intros <;> first | with_reducible assumption | (refine Int.le_antisymm ?_ ?_ <;> omega) | omega) | omega)]; omega, by omega⟩), rfl⟩ dX9_bestStep_140
      · rw [le2 (a := 8) (b := v) (A := 8) (B := v.toInt) rfl rfl] at c_109
        refine lv_iconst (v := (0)) S.1 S.2.1 dX9_bestStep_48 (by decide) ?_
        refine lv_goto (tgt := 54) S.1 S.2.1 dX9_bestStep_49 (by decide) ?_
        refine lv_isub S.1 S.2.1 dX9_bestStep_54 ?_
        refine lv_topi (fun x_150 ex_150 => ?_)
        have tx_150 : x_150.toInt = x_108.toInt - (0) := subI (A := x_108.toInt) (B := 0) ex_150 rfl rfl (by  omega) (by  omega)
        refine lv_istore (lv' := [(6, .int x_150), (5, .int x_106), (4, .int v), (3, .int kn), (0, .ref y), (1, .int k), (2, .int lf)]) S.1 S.2.1 dX9_bestStep_55 hl (by decide) rfl (fun ls hl => ?_)
        have hth : x_150.toInt = th go nS v.toInt := by first | (rw [th_lo (by first | (and_intros <;> first | with_reducible assumption | (refine Int.le_antisymm ?_ ?_ <;> omega) | omega) | omega)]; omega) | (rw [th_hi (by first | (and_intros <;> first | with_reducible assumption | (refine Int.le_antisymm ?_ ?_ <;> omega) | omega) | omega)]; omega)
        refine lv_iload S.1 S.2.1 dX9_bestStep_57 (lv_at hl 1 rfl) ?_
        refine lv_if_lt (tgt := 141) S.1 S.2.1 dX9_bestStep_59 (by decide) (fun c_151 => ?_) (fun c_151 => ?_)
        · rw [lt2 (a := x_106) (b := 0) (A := x_106.toInt) (B := 0) rfl rfl] at c_151
          obtain ⟨x_152, ex_152⟩ : ∃ y : Int32, y = v + Int32.ofInt (1) := ⟨_, rfl⟩
          refine lv_iinc (v := x_152) (lv' := [(4, .int x_152), (6, .int x_150), (5, .int x_106), (3, .int kn), (0, .ref y), (1, .int k), (2, .int lf)]) S.1 S.2.1 dX9_bestStep_141 hl (k := 2) rfl ex_152.symm (by decide) rfl (fun ls hl => ?_)
          have tx_152 : x_152.toInt = v.toInt + (1) := addI (A := v.toInt) (B := 1) ex_152 rfl rfl (by  omega) (by  omega)
          refine lv_goto (tgt := 10) S.1 S.2.1 dX9_bestStep_144 (by decide) ?_
          exact ih x_152 (by first | with_reducible assumption | assumption | omega | decide | (rw [show Int32.toInt 0 = 0 from rfl]; omega)) (by first | with_reducible assumption | assumption | omega | decide | (rw [show Int32.toInt 0 = 0 from rfl]; omega)) (by first | with_reducible assumption | decide | (and_intros <;> first | with_reducible assumption | (intros; refine Int.le_antisymm ?_ ?_ <;> omega) | omega) | assumption | (rw [show Int32.toInt 0 = 0 from rfl]; omega)) (by first | exact NB_s hnb (by first | (and_intros <;> first | with_reducible assumption | (refine Int.le_antisymm ?_ ?_ <;> omega) | omega) | omega) (fun hb => by unfold mtc at hb; first | omega | (rw [fc_hi (by first | (and_intros <;> first | with_reducible assumption | (refine Int.le_antisymm ?_ ?_ <;> omega) | omega) | omega)] at hb; omega)) | assumption) (by first | (and_intros <;> first | with_reducible assumption | (refine Int.le_antisymm ?_ ?_ <;> omega) | omega) | omega) H _ ls hP hD hS (lv_sub hl [0, 3, 4, 5, 6] rfl)
        · rw [lt2 (a := x_106) (b := 0) (A := x_106.toInt) (B := 0) rfl rfl] at c_151
          refine lv_iload S.1 S.2.1 dX9_bestStep_62 (lv_at hl 0 rfl) ?_
          refine lv_if_lt (tgt := 141) S.1 S.2.1 dX9_bestStep_64 (by decide) (fun c_153 => ?_) (fun c_153 => ?_)
          · rw [lt2 (a := x_150) (b := 0) (A := x_150.toInt) (B := 0) rfl rfl] at c_153
            obtain ⟨x_154, ex_154⟩ : ∃ y : Int32, y = v + Int32.ofInt (1) := ⟨_, rfl⟩
            refine lv_iinc (v := x_154) (lv' := [(4, .int x_154), (6, .int x_150), (5, .int x_106), (3, .int kn), (0, .ref y), (1, .int k), (2, .int lf)]) S.1 S.2.1 dX9_bestStep_141 hl (k := 2) rfl ex_154.symm (by decide) rfl (fun ls hl => ?_)
            have tx_154 : x_154.toInt = v.toInt + (1) := addI (A := v.toInt) (B := 1) ex_154 rfl rfl (by  omega) (by  omega)
            refine lv_goto (tgt := 10) S.1 S.2.1 dX9_bestStep_144 (by decide) ?_
            exact ih x_154 (by first | with_reducible assumption | assumption | omega | decide | (rw [show Int32.toInt 0 = 0 from rfl]; omega)) (by first | with_reducible assumption | assumption | omega | decide | (rw [show Int32.toInt 0 = 0 from rfl]; omega)) (by first | with_reducible assumption | decide | (and_intros <;> first | with_reducible assumption | (intros; refine Int.le_antisymm ?_ ?_ <;> omega) | omega) | assumption | (rw [show Int32.toInt 0 = 0 from rfl]; omega)) (by first | exact NB_s hnb (by first | (and_intros <;> first | with_reducible assumption | (refine Int.le_antisymm ?_ ?_ <;> omega) | omega) | omega) (fun hb => by unfold mtc at hb; first | omega | (rw [fc_hi (by first | (and_intros <;> first | with_reducible assumption | (refine Int.le_antisymm ?_ ?_ <;> omega) | omega) | omega)] at hb; omega)) | assumption) (by first | (and_intros <;> first | with_reducible assumption | (refine Int.le_antisymm ?_ ?_ <;> omega) | omega) | omega) H _ ls hP hD hS (lv_sub hl [0, 3, 4, 5, 6] rfl)
          · rw [lt2 (a := x_150) (b := 0) (A := x_150.toInt) (B := 0) rfl rfl] at c_153
            have hTT := LBn_nn (hLB (th go nS v.toInt) (by first | (and_intros <;> first | with_reducible assumption | (refine Int.le_antisymm ?_ ?_ <;> omega) | omega) | omega) (by first | (and_intros <;> first | with_reducible assumption | (refine Int.le_antisymm ?_ ?_ <;> omega) | omega) | omega))
            refine lv_aload_n S.1 S.2.1 dX9_bestStep_67 rfl (lv_at hl 4 rfl) ?_
            refine b_get (v := .ref y_cost) S iX9 hK hP 0 rfl rfl 20 (by decide) (by decide +kernel) rfl dX9_bestStep_68 ?_
            refine lv_iload S.1 S.2.1 dX9_bestStep_71 (lv_at hl 0 rfl) ?_
            have hin_155 : vp_in x_150 480 := (in_of (n := 480) (by  omega) (by  omega))
            refine va_iald S.1 S.2.1 hK.1 hP 3 0 rfl rfl hin_155 dX9_bestStep_73 ?_
            refine lv_topi (fun x_156 ex_156 => ?_)
            have bx_156 : x_156.toInt = cv co (th go nS v.toInt) := by rw [ex_156]; show (co (x_150).toInt.toNat).toInt = (co (th go nS v.toInt).toNat).toInt; rw [show (x_150).toInt = th go nS v.toInt from by omega]
            refine lv_ldcw (v := (268435456)) S.1 S.2.1 S.2.2.2.1 (S.2.2.2.2 (.constant RX9 266 (268435456)) (by decide +kernel)) dX9_bestStep_74 ?_
            refine lv_icmp_ge (tgt := 141) S.1 S.2.1 dX9_bestStep_77 (by decide) (fun c_157 => ?_) (fun c_157 => ?_)
            · rw [le2 (a := 268435456) (b := x_156) (A := 268435456) (B := x_156.toInt) rfl rfl] at c_157
              obtain ⟨x_158, ex_158⟩ : ∃ y : Int32, y = v + Int32.ofInt (1) := ⟨_, rfl⟩
              refine lv_iinc (v := x_158) (lv' := [(4, .int x_158), (6, .int x_150), (5, .int x_106), (3, .int kn), (0, .ref y), (1, .int k), (2, .int lf)]) S.1 S.2.1 dX9_bestStep_141 hl (k := 2) rfl ex_158.symm (by decide) rfl (fun ls hl => ?_)
              have tx_158 : x_158.toInt = v.toInt + (1) := addI (A := v.toInt) (B := 1) ex_158 rfl rfl (by  omega) (by  omega)
              refine lv_goto (tgt := 10) S.1 S.2.1 dX9_bestStep_144 (by decide) ?_
              exact ih x_158 (by first | with_reducible assumption | assumption | omega | decide | (rw [show Int32.toInt 0 = 0 from rfl]; omega)) (by first | with_reducible assumption | assumption | omega | decide | (rw [show Int32.toInt 0 = 0 from rfl]; omega)) (by first | with_reducible assumption | decide | (and_intros <;> first | with_reducible assumption | (intros; refine Int.le_antisymm ?_ ?_ <;> omega) | omega) | assumption | (rw [show Int32.toInt 0 = 0 from rfl]; omega)) (by first | exact NB_s hnb (by first | (and_intros <;> first | with_reducible assumption | (refine Int.le_antisymm ?_ ?_ <;> omega) | omega) | omega) (fun hb => by unfold mtc at hb; first | omega | (rw [fc_hi (by first | (and_intros <;> first | with_reducible assumption | (refine Int.le_antisymm ?_ ?_ <;> omega) | omega) | omega)] at hb; omega)) | assumption) (by first | (and_intros <;> first | with_reducible assumption | (refine Int.le_antisymm ?_ ?_ <;> omega) | omega) | omega) H _ ls hP hD hS (lv_sub hl [0, 3, 4, 5, 6] rfl)
            · rw [le2 (a := 268435456) (b := x_156) (A := 268435456) (B := x_156.toInt) rfl rfl] at c_157
              refine lv_aload_n S.1 S.2.1 dX9_bestStep_80 rfl (lv_at hl 4 rfl) ?_
              refine b_get (v := .ref y_cost) S iX9 hK hP 0 rfl rfl 20 (by decide) (by decide +kernel) rfl dX9_bestStep_81 ?_
              refine lv_iload S.1 S.2.1 dX9_bestStep_84 (lv_at hl 0 rfl) ?_
              have hin_159 : vp_in x_150 480 := (in_of (n := 480) (by  omega) (by  omega))
              refine va_iald S.1 S.2.1 hK.1 hP 3 0 rfl rfl hin_159 dX9_bestStep_86 ?_
              refine lv_topi (fun x_160 ex_160 => ?_)
              have bx_160 : x_160.toInt = cv co (th go nS v.toInt) := by rw [ex_160]; show (co (x_150).toInt.toNat).toInt = (co (th go nS v.toInt).toNat).toInt; rw [show (x_150).toInt = th go nS v.toInt from by omega]
              have lx_160 : x_160.toInt = x_156.toInt := by rw [ex_160, ex_156]
              refine lv_iload S.1 S.2.1 dX9_bestStep_87 (lv_at hl 2 rfl) ?_
              refine lv_bipush (v := (8)) S.1 S.2.1 dX9_bestStep_89 (by decide) ?_
              refine lv_icmp_ge (tgt := 109) S.1 S.2.1 dX9_bestStep_91 (by decide) (fun c_161 => ?_) (fun c_161 => ?_)
              · rw [le2 (a := 8) (b := v) (A := 8) (B := v.toInt) rfl rfl] at c_161
                refine lv_iconst (v := (0)) S.1 S.2.1 dX9_bestStep_109 (by decide) ?_
                refine lv_iadd S.1 S.2.1 dX9_bestStep_110 ?_
                refine lv_topi (fun x_162 ex_162 => ?_)
                have tx_162 : x_162.toInt = x_160.toInt + (0) := addI (A := x_160.toInt) (B := 0) ex_162 rfl rfl (by  omega) (by  omega)
                refine lv_aload_n S.1 S.2.1 dX9_bestStep_111 rfl (lv_at hl 4 rfl) ?_
                refine b_get (v := .ref y_cost) S iX9 hK hP 0 rfl rfl 20 (by decide) (by decide +kernel) rfl dX9_bestStep_112 ?_
                refine lv_iload_n S.1 S.2.1 dX9_bestStep_115 rfl (lv_at hl 3 rfl) ?_
                have hin_163 : vp_in kn 480 := (in_of (n := 480) (by  omega) (by  omega))
                refine va_iald S.1 S.2.1 hK.1 hP 3 0 rfl rfl hin_163 dX9_bestStep_116 ?_
                refine lv_topi (fun x_164 ex_164 => ?_)
                have bx_164 : x_164.toInt = cv co nS := by rw [ex_164]; show (co (kn).toInt.toNat).toInt = (co (nS).toNat).toInt; rw [show (kn).toInt = nS from by omega]
                refine lv_icmp_ne (tgt := 141) S.1 S.2.1 dX9_bestStep_117 (by decide) (fun c_165 => ?_) (fun c_165 => ?_)
                · rw [eq2 (a := x_162) (b := x_164) (A := x_162.toInt) (B := x_164.toInt) rfl rfl] at c_165
                  obtain ⟨x_166, ex_166⟩ : ∃ y : Int32, y = v + Int32.ofInt (1) := ⟨_, rfl⟩
                  refine lv_iinc (v := x_166) (lv' := [(4, .int x_166), (6, .int x_150), (5, .int x_106), (3, .int kn), (0, .ref y), (1, .int k), (2, .int lf)]) S.1 S.2.1 dX9_bestStep_141 hl (k := 2) rfl ex_166.symm (by decide) rfl (fun ls hl => ?_)
                  have tx_166 : x_166.toInt = v.toInt + (1) := addI (A := v.toInt) (B := 1) ex_166 rfl rfl (by  omega) (by  omega)
                  refine lv_goto (tgt := 10) S.1 S.2.1 dX9_bestStep_144 (by decide) ?_
                  exact ih x_166 (by first | with_reducible assumption | assumption | omega | decide | (rw [show Int32.toInt 0 = 0 from rfl]; omega)) (by first | with_reducible assumption | assumption | omega | decide | (rw [show Int32.toInt 0 = 0 from rfl]; omega)) (by first | with_reducible assumption | decide | (and_intros <;> first | with_reducible assumption | (intros; refine Int.le_antisymm ?_ ?_ <;> omega) | omega) | assumption | (rw [show Int32.toInt 0 = 0 from rfl]; omega)) (by first | exact NB_s hnb (by first | (and_intros <;> first | with_reducible assumption | (refine Int.le_antisymm ?_ ?_ <;> omega) | omega) | omega) (fun hb => by unfold mtc at hb; first | omega | (rw [fc_hi (by first | (and_intros <;> first | with_reducible assumption | (refine Int.le_antisymm ?_ ?_ <;> omega) | omega) | omega)] at hb; omega)) | assumption) (by first | (and_intros <;> first | with_reducible assumption | (refine Int.le_antisymm ?_ ?_ <;> omega) | omega) | omega) H _ ls hP hD hS (lv_sub hl [0, 3, 4, 5, 6] rfl)
                · rw [eq2 (a := x_162) (b := x_164) (A := x_162.toInt) (B := x_164.toInt) rfl rfl] at c_165
                  refine lv_aload_n S.1 S.2.1 dX9_bestStep_120 rfl (lv_at hl 4 rfl) ?_
                  refine b_get (v := .ref y_away) S iX9 hK hP 0 rfl rfl 21 (by decide) (by decide +kernel) rfl dX9_bestStep_121 ?_
                  refine lv_iload S.1 S.2.1 dX9_bestStep_124 (lv_at hl 0 rfl) ?_
                  have hin_167 : vp_in x_150 480 := (in_of (n := 480) (by  omega) (by  omega))
                  refine va_iald S.1 S.2.1 hK.1 hP 4 0 rfl rfl hin_167 dX9_bestStep_126 ?_
                  refine lv_topi (fun x_168 ex_168 => ?_)
                  have bx_168 : x_168.toInt = cv aw (th go nS v.toInt) := by rw [ex_168]; show (aw (x_150).toInt.toNat).toInt = (aw (th go nS v.toInt).toNat).toInt; rw [show (x_150).toInt = th go nS v.toInt from by omega]
                  refine lv_iconst (v := (1)) S.1 S.2.1 dX9_bestStep_127 (by decide) ?_
                  refine lv_iadd S.1 S.2.1 dX9_bestStep_128 ?_
                  refine lv_topi (fun x_169 ex_169 => ?_)
                  have tx_169 : x_169.toInt = x_168.toInt + (1) := addI (A := x_168.toInt) (B := 1) ex_169 rfl rfl (by  omega) (by  omega)
                  refine lv_aload_n S.1 S.2.1 dX9_bestStep_129 rfl (lv_at hl 4 rfl) ?_
                  refine b_get (v := .ref y_away) S iX9 hK hP 0 rfl rfl 21 (by decide) (by decide +kernel) rfl dX9_bestStep_130 ?_
                  refine lv_iload_n S.1 S.2.1 dX9_bestStep_133 rfl (lv_at hl 3 rfl) ?_
                  have hin_170 : vp_in kn 480 := (in_of (n := 480) (by  omega) (by  omega))
                  refine va_iald S.1 S.2.1 hK.1 hP 4 0 rfl rfl hin_170 dX9_bestStep_134 ?_
                  refine lv_topi (fun x_171 ex_171 => ?_)
                  have bx_171 : x_171.toInt = cv aw nS := by rw [ex_171]; show (aw (kn).toInt.toNat).toInt = (aw (nS).toNat).toInt; rw [show (kn).toInt = nS from by omega]
                  refine lv_icmp_ne (tgt := 141) S.1 S.2.1 dX9_bestStep_135 (by decide) (fun c_172 => ?_) (fun c_172 => ?_)
                  · rw [eq2 (a := x_169) (b := x_171) (A := x_169.toInt) (B := x_171.toInt) rfl rfl] at c_172
                    obtain ⟨x_173, ex_173⟩ : ∃ y : Int32, y = v + Int32.ofInt (1) := ⟨_, rfl⟩
                    refine lv_iinc (v := x_173) (lv' := [(4, .int x_173), (6, .int x_150), (5, .int x_106), (3, .int kn), (0, .ref y), (1, .int k), (2, .int lf)]) S.1 S.2.1 dX9_bestStep_141 hl (k := 2) rfl ex_173.symm (by decide) rfl (fun ls hl => ?_)
                    have tx_173 : x_173.toInt = v.toInt + (1) := addI (A := v.toInt) (B := 1) ex_173 rfl rfl (by  omega) (by  omega)
                    refine lv_goto (tgt := 10) S.1 S.2.1 dX9_bestStep_144 (by decide) ?_
                    exact ih x_173 (by first | with_reducible assumption | assumption | omega | decide | (rw [show Int32.toInt 0 = 0 from rfl]; omega)) (by first | with_reducible assumption | assumption | omega | decide | (rw [show Int32.toInt 0 = 0 from rfl]; omega)) (by first | with_reducible assumption | decide | (and_intros <;> first | with_reducible assumption | (intros; refine Int.le_antisymm ?_ ?_ <;> omega) | omega) | assumption | (rw [show Int32.toInt 0 = 0 from rfl]; omega)) (by first | exact NB_s hnb (by first | (and_intros <;> first | with_reducible assumption | (refine Int.le_antisymm ?_ ?_ <;> omega) | omega) | omega) (fun hb => by unfold mtc at hb; first | omega | (rw [fc_hi (by first | (and_intros <;> first | with_reducible assumption | (refine Int.le_antisymm ?_ ?_ <;> omega) | omega) | omega)] at hb; omega)) | assumption) (by first | (and_intros <;> first | with_reducible assumption | (refine Int.le_antisymm ?_ ?_ <;> omega) | omega) | omega) H _ ls hP hD hS (lv_sub hl [0, 3, 4, 5, 6] rfl)
                  · rw [eq2 (a := x_169) (b := x_171) (A := x_169.toInt) (B := x_171.toInt) rfl rfl] at c_172
                    refine lv_iload S.1 S.2.1 dX9_bestStep_138 (lv_at hl 2 rfl) ?_
                    exact b_iret S.1 S.2.1 X.2.1 X.2.2.1 hP hD hS ⟨(by first | with_reducible assumption | decide | (and_intros <;> first | with_reducible assumption | (intros; refine Int.le_antisymm ?_ ?_ <;> omega) | omega) | assumption | (rw [show Int32.toInt 0 = 0 from rfl]; omega)), (by first | exact ⟨by omega, by omega, by omega, by omega, by omega⟩ | exact ⟨by omega, by omega, by omega, by rw [fc_hi (by first | (and_intros <;> first | with_reducible assumption | (refine Int.le_antisymm ?_ ?_ <;> omega) | omega) | omega)]; omega, by omega⟩), rfl⟩ dX9_bestStep_140
              · rw [le2 (a := 8) (b := v) (A := 8) (B := v.toInt) rfl rfl] at c_161
                refine lv_aload_n S.1 S.2.1 dX9_bestStep_94 rfl (lv_at hl 4 rfl) ?_
                refine b_get (v := .ref y_fee) S iX9 hK hP 0 rfl rfl 22 (by decide) (by decide +kernel) rfl dX9_bestStep_95 ?_
                refine lv_bipush (v := (8)) S.1 S.2.1 dX9_bestStep_98 (by decide) ?_
                refine lv_iload_n S.1 S.2.1 dX9_bestStep_100 rfl (lv_at hl 5 rfl) ?_
                refine lv_imul S.1 S.2.1 dX9_bestStep_101 ?_
                refine lv_topi (fun x_174 ex_174 => ?_)
                have tx_174 : x_174.toInt = 8 * k.toInt := mulI (A := 8) (B := k.toInt) ex_174 rfl rfl (by  omega) (by  omega)
                refine lv_iload S.1 S.2.1 dX9_bestStep_102 (lv_at hl 2 rfl) ?_
                refine lv_iadd S.1 S.2.1 dX9_bestStep_104 ?_
                refine lv_topi (fun x_175 ex_175 => ?_)
                have tx_175 : x_175.toInt = x_174.toInt + (v.toInt) := addI (A := x_174.toInt) (B := v.toInt) ex_175 rfl rfl (by  omega) (by  omega)
                have hin_176 : vp_in x_175 640 := (in_of (n := 640) (by  omega) (by  omega))
                refine va_iald S.1 S.2.1 hK.1 hP 1 0 rfl rfl hin_176 dX9_bestStep_105 ?_
                refine lv_topi (fun x_177 ex_177 => ?_)
                have tx_177 := rng_get (x := x_177) (show rng fe 640 (0) (400) by assumption) hin_176 ex_177
                have bx_177 : x_177.toInt = fc fe nS v.toInt := by rw [fc_lo (by first | (and_intros <;> first | with_reducible assumption | (refine Int.le_antisymm ?_ ?_ <;> omega) | omega) | omega), ex_177]; show (fe (x_175).toInt.toNat).toInt = (fe (8 * (nS % 80) + v.toInt).toNat).toInt; rw [show (x_175).toInt = 8 * (nS % 80) + v.toInt from by omega]
                refine lv_goto (tgt := 110) S.1 S.2.1 dX9_bestStep_106 (by decide) ?_
                refine lv_iadd S.1 S.2.1 dX9_bestStep_110 ?_
                refine lv_topi (fun x_178 ex_178 => ?_)
                have tx_178 : x_178.toInt = x_160.toInt + (x_177.toInt) := addI (A := x_160.toInt) (B := x_177.toInt) ex_178 rfl rfl (by  omega) (by  omega)
                refine lv_aload_n S.1 S.2.1 dX9_bestStep_111 rfl (lv_at hl 4 rfl) ?_
                refine b_get (v := .ref y_cost) S iX9 hK hP 0 rfl rfl 20 (by decide) (by decide +kernel) rfl dX9_bestStep_112 ?_
                refine lv_iload_n S.1 S.2.1 dX9_bestStep_115 rfl (lv_at hl 3 rfl) ?_
                have hin_179 : vp_in kn 480 := (in_of (n := 480) (by  omega) (by  omega))
                refine va_iald S.1 S.2.1 hK.1 hP 3 0 rfl rfl hin_179 dX9_bestStep_116 ?_
                refine lv_topi (fun x_180 ex_180 => ?_)
                have bx_180 : x_180.toInt = cv co nS := by rw [ex_180]; show (co (kn).toInt.toNat).toInt = (co (nS).toNat).toInt; rw [show (kn).toInt = nS from by omega]
                refine lv_icmp_ne (tgt := 141) S.1 S.2.1 dX9_bestStep_117 (by decide) (fun c_181 => ?_) (fun c_181 => ?_)
                · rw [eq2 (a := x_178) (b := x_180) (A := x_178.toInt) (B := x_180.toInt) rfl rfl] at c_181
                  obtain ⟨x_182, ex_182⟩ : ∃ y : Int32, y = v + Int32.ofInt (1) := ⟨_, rfl⟩
                  refine lv_iinc (v := x_182) (lv' := [(4, .int x_182), (6, .int x_150), (5, .int x_106), (3, .int kn), (0, .ref y), (1, .int k), (2, .int lf)]) S.1 S.2.1 dX9_bestStep_141 hl (k := 2) rfl ex_182.symm (by decide) rfl (fun ls hl => ?_)
                  have tx_182 : x_182.toInt = v.toInt + (1) := addI (A := v.toInt) (B := 1) ex_182 rfl rfl (by  omega) (by  omega)
                  refine lv_goto (tgt := 10) S.1 S.2.1 dX9_bestStep_144 (by decide) ?_
                  exact ih x_182 (by first | with_reducible assumption | assumption | omega | decide | (rw [show Int32.toInt 0 = 0 from rfl]; omega)) (by first | with_reducible assumption | assumption | omega | decide | (rw [show Int32.toInt 0 = 0 from rfl]; omega)) (by first | with_reducible assumption | decide | (and_intros <;> first | with_reducible assumption | (intros; refine Int.le_antisymm ?_ ?_ <;> omega) | omega) | assumption | (rw [show Int32.toInt 0 = 0 from rfl]; omega)) (by first | exact NB_s hnb (by first | (and_intros <;> first | with_reducible assumption | (refine Int.le_antisymm ?_ ?_ <;> omega) | omega) | omega) (fun hb => by unfold mtc at hb; first | omega | (rw [fc_hi (by first | (and_intros <;> first | with_reducible assumption | (refine Int.le_antisymm ?_ ?_ <;> omega) | omega) | omega)] at hb; omega)) | assumption) (by first | (and_intros <;> first | with_reducible assumption | (refine Int.le_antisymm ?_ ?_ <;> omega) | omega) | omega) H _ ls hP hD hS (lv_sub hl [0, 3, 4, 5, 6] rfl)
                · rw [eq2 (a := x_178) (b := x_180) (A := x_178.toInt) (B := x_180.toInt) rfl rfl] at c_181
                  refine lv_aload_n S.1 S.2.1 dX9_bestStep_120 rfl (lv_at hl 4 rfl) ?_
                  refine b_get (v := .ref y_away) S iX9 hK hP 0 rfl rfl 21 (by decide) (by decide +kernel) rfl dX9_bestStep_121 ?_
                  refine lv_iload S.1 S.2.1 dX9_bestStep_124 (lv_at hl 0 rfl) ?_
                  have hin_183 : vp_in x_150 480 := (in_of (n := 480) (by  omega) (by  omega))
                  refine va_iald S.1 S.2.1 hK.1 hP 4 0 rfl rfl hin_183 dX9_bestStep_126 ?_
                  refine lv_topi (fun x_184 ex_184 => ?_)
                  have bx_184 : x_184.toInt = cv aw (th go nS v.toInt) := by rw [ex_184]; show (aw (x_150).toInt.toNat).toInt = (aw (th go nS v.toInt).toNat).toInt; rw [show (x_150).toInt = th go nS v.toInt from by omega]
                  refine lv_iconst (v := (1)) S.1 S.2.1 dX9_bestStep_127 (by decide) ?_
                  refine lv_iadd S.1 S.2.1 dX9_bestStep_128 ?_
                  refine lv_topi (fun x_185 ex_185 => ?_)
                  have tx_185 : x_185.toInt = x_184.toInt + (1) := addI (A := x_184.toInt) (B := 1) ex_185 rfl rfl (by  omega) (by  omega)
                  refine lv_aload_n S.1 S.2.1 dX9_bestStep_129 rfl (lv_at hl 4 rfl) ?_
                  refine b_get (v := .ref y_away) S iX9 hK hP 0 rfl rfl 21 (by decide) (by decide +kernel) rfl dX9_bestStep_130 ?_
                  refine lv_iload_n S.1 S.2.1 dX9_bestStep_133 rfl (lv_at hl 3 rfl) ?_
                  have hin_186 : vp_in kn 480 := (in_of (n := 480) (by  omega) (by  omega))
                  refine va_iald S.1 S.2.1 hK.1 hP 4 0 rfl rfl hin_186 dX9_bestStep_134 ?_
                  refine lv_topi (fun x_187 ex_187 => ?_)
                  have bx_187 : x_187.toInt = cv aw nS := by rw [ex_187]; show (aw (kn).toInt.toNat).toInt = (aw (nS).toNat).toInt; rw [show (kn).toInt = nS from by omega]
                  refine lv_icmp_ne (tgt := 141) S.1 S.2.1 dX9_bestStep_135 (by decide) (fun c_188 => ?_) (fun c_188 => ?_)
                  · rw [eq2 (a := x_185) (b := x_187) (A := x_185.toInt) (B := x_187.toInt) rfl rfl] at c_188
                    obtain ⟨x_189, ex_189⟩ : ∃ y : Int32, y = v + Int32.ofInt (1) := ⟨_, rfl⟩
                    refine lv_iinc (v := x_189) (lv' := [(4, .int x_189), (6, .int x_150), (5, .int x_106), (3, .int kn), (0, .ref y), (1, .int k), (2, .int lf)]) S.1 S.2.1 dX9_bestStep_141 hl (k := 2) rfl ex_189.symm (by decide) rfl (fun ls hl => ?_)
                    have tx_189 : x_189.toInt = v.toInt + (1) := addI (A := v.toInt) (B := 1) ex_189 rfl rfl (by  omega) (by  omega)
                    refine lv_goto (tgt := 10) S.1 S.2.1 dX9_bestStep_144 (by decide) ?_
                    exact ih x_189 (by first | with_reducible assumption | assumption | omega | decide | (rw [show Int32.toInt 0 = 0 from rfl]; omega)) (by first | with_reducible assumption | assumption | omega | decide | (rw [show Int32.toInt 0 = 0 from rfl]; omega)) (by first | with_reducible assumption | decide | (and_intros <;> first | with_reducible assumption | (intros; refine Int.le_antisymm ?_ ?_ <;> omega) | omega) | assumption | (rw [show Int32.toInt 0 = 0 from rfl]; omega)) (by first | exact NB_s hnb (by first | (and_intros <;> first | with_reducible assumption | (refine Int.le_antisymm ?_ ?_ <;> omega) | omega) | omega) (fun hb => by unfold mtc at hb; first | omega | (rw [fc_hi (by first | (and_intros <;> first | with_reducible assumption | (refine Int.le_antisymm ?_ ?_ <;> omega) | omega) | omega)] at hb; omega)) | assumption) (by first | (and_intros <;> first | with_reducible assumption | (refine Int.le_antisymm ?_ ?_ <;> omega) | omega) | omega) H _ ls hP hD hS (lv_sub hl [0, 3, 4, 5, 6] rfl)
                  · rw [eq2 (a := x_185) (b := x_187) (A := x_185.toInt) (B := x_187.toInt) rfl rfl] at c_188
                    refine lv_iload S.1 S.2.1 dX9_bestStep_138 (lv_at hl 2 rfl) ?_
                    exact b_iret S.1 S.2.1 X.2.1 X.2.2.1 hP hD hS ⟨(by first | with_reducible assumption | decide | (and_intros <;> first | with_reducible assumption | (intros; refine Int.le_antisymm ?_ ?_ <;> omega) | omega) | assumption | (rw [show Int32.toInt 0 = 0 from rfl]; omega)), (by first | exact ⟨by omega, by omega, by omega, by omega, by omega⟩ | exact ⟨by omega, by omega, by omega, by rw [fc_hi (by first | (and_intros <;> first | with_reducible assumption | (refine Int.le_antisymm ?_ ?_ <;> omega) | omega) | omega)]; omega, by omega⟩), rfl⟩ dX9_bestStep_140
set_option maxHeartbeats 4000000 in
set_option maxRecDepth 100000 in
theorem s_X9_bestStep (l : Launch) (D : va_G) (cI cZ cC cS : ClassId) (sq : Nat → Nat) (sz : Nat) (y : Nat) (y_fee : Nat) (y_goesTo : Nat) (y_cost : Nat) (y_away : Nat) (k : Int32) (lf : Int32) (m_thrown : Int32) (m_status : Int32) (y_lane : Nat) (y_many : Nat) (y_item : Nat) (y_city : Nat) (y_fresh : Nat) (m_isThere : Int32) (y_tape : Nat) (m_taped : Int32) (m_latest : Int32) (m_length : Int32) (m_cursor : Int32) (m_token : Int32) (m_start : Int32) (m_till : Int32) (m_fault : Int32) (m_faultAt : Int32) (m_seen : Int32) (m_mirrors : Int32) (y_priceWas : Nat) (y_isKept : Nat) (y_kept : Nat) (y_trace : Nat) (m_traced : Int32) (fe : Nat → Int32) (go : Nat → Int32) (co : Nat → Int32) (aw : Nat → Int32) (nS : Int) (gS : Int) (cy : Nat → Int32) (hrg_fe : rng fe 640 (0) (400)) (hrg_go : rng go 640 (-1) (79)) (hn : 0 ≤ k.toInt ∧ k.toInt < 80 ∧ 0 ≤ lf.toInt ∧ lf.toInt ≤ 5 ∧ nS = k.toInt + 80 * lf.toInt) (hLB : LB co aw fe go cy gS) (hex : ∃ u : Int, 0 ≤ u ∧ u < 16 ∧ mtc co aw fe go nS u) : mI l yX9_bestStep wsX9_bestStep 0 0 D (tyW cI cZ cC cS) sq [(y, .inr (9, [.int m_thrown, .int m_status, .ref y_lane, .ref y_many, .ref y_item, .ref y_city, .ref y_fresh, .int m_isThere, .ref y_tape, .int m_taped, .int m_latest, .int m_length, .int m_cursor, .int m_token, .int m_start, .int m_till, .int m_fault, .int m_faultAt, .int m_seen, .int m_mirrors, .ref y_cost, .ref y_away, .ref y_fee, .ref y_goesTo, .ref y_priceWas, .ref y_isKept, .ref y_kept, .ref y_trace, .int m_traced])), (y_fee, .inl (cI, 640, .inl fe)), (y_goesTo, .inl (cI, 640, .inl go)), (y_cost, .inl (cI, 480, .inl co)), (y_away, .inl (cI, 480, .inl aw))] sz [.ref y, .int k, .int lf] (fun r w => ((0 ≤ r.toInt ∧ r.toInt < 16) ∧ (mtc co aw fe go nS r.toInt) ∧ w = [(y, .inr (9, [.int m_thrown, .int m_status, .ref y_lane, .ref y_many, .ref y_item, .ref y_city, .ref y_fresh, .int m_isThere, .ref y_tape, .int m_taped, .int m_latest, .int m_length, .int m_cursor, .int m_token, .int m_start, .int m_till, .int m_fault, .int m_faultAt, .int m_seen, .int m_mirrors, .ref y_cost, .ref y_away, .ref y_fee, .ref y_goesTo, .ref y_priceWas, .ref y_isKept, .ref y_kept, .ref y_trace, .int m_traced])), (y_fee, .inl (cI, 640, .inl fe)), (y_goesTo, .inl (cI, 640, .inl go)), (y_cost, .inl (cI, 480, .inl co)), (y_away, .inl (cI, 480, .inl aw))])) := by
  refine b_metI (cc := cX9_bestStep) (maxL := 7) (ret := (some .int)) (by decide) rfl (Nat.le_of_ble_eq_true rfl) ?_
  intro p e s m below meth c ls A H X hsz hP hK hT hD hA hS hl
  have S : CallFix p m c cX9_bestStep 7 s ([.ref y, .int k, .int lf] : List Value).toArray wsX9_bestStep RX9 := X.1
  have hl : lv_has ls 7 [(0, .ref y), (1, .int k), (2, .int lf)] := hl
  refine lv_iload_n S.1 S.2.1 dX9_bestStep_0 rfl (lv_at hl 1 rfl) ?_
  refine lv_bipush (v := (80)) S.1 S.2.1 dX9_bestStep_1 (by decide) ?_
  refine lv_iload_n S.1 S.2.1 dX9_bestStep_3 rfl (lv_at hl 2 rfl) ?_
  refine lv_imul S.1 S.2.1 dX9_bestStep_4 ?_
  refine lv_topi (fun x_1 ex_1 => ?_)
  have tx_1 : x_1.toInt = 80 * lf.toInt := mulI (A := 80) (B := lf.toInt) ex_1 rfl rfl (by  omega) (by  omega)
  refine lv_iadd S.1 S.2.1 dX9_bestStep_5 ?_
  refine lv_topi (fun x_2 ex_2 => ?_)
  have tx_2 : x_2.toInt = k.toInt + (x_1.toInt) := addI (A := k.toInt) (B := x_1.toInt) ex_2 rfl rfl (by  omega) (by  omega)
  refine lv_istore_n (lv' := [(3, .int x_2), (0, .ref y), (1, .int k), (2, .int lf)]) S.1 S.2.1 dX9_bestStep_6 rfl hl (by decide) rfl (fun ls hl => ?_)
  refine lv_iconst (v := (0)) S.1 S.2.1 dX9_bestStep_7 (by decide) ?_
  refine lv_istore (lv' := [(4, .int 0), (3, .int x_2), (0, .ref y), (1, .int k), (2, .int lf)]) S.1 S.2.1 dX9_bestStep_8 hl (by decide) rfl (fun ls hl => ?_)
  refine lp_mbest l D cI cZ cC cS sq y y_fee y_goesTo y_cost y_away k lf m_thrown m_status y_lane y_many y_item y_city y_fresh m_isThere y_tape m_taped m_latest m_length m_cursor m_token m_start m_till m_fault m_faultAt m_seen m_mirrors y_priceWas y_isKept y_kept y_trace m_traced fe go co aw nS gS cy hrg_fe hrg_go hn hLB hex x_2 (by first | with_reducible assumption | decide | (and_intros <;> first | with_reducible assumption | (intros; refine Int.le_antisymm ?_ ?_ <;> omega) | omega) | assumption | (rw [show Int32.toInt 0 = 0 from rfl]; omega)) X hK hT hA (fun v_3 hi_4 hi_5 hi_6 hi_7 hi_8 H locs ls hP hD hS hl => ?_) _ (0) (by first | with_reducible assumption | assumption | omega | decide | (rw [show Int32.toInt 0 = 0 from rfl]; omega)) (by first | with_reducible assumption | assumption | omega | decide | (rw [show Int32.toInt 0 = 0 from rfl]; omega)) (by first | with_reducible assumption | decide | (and_intros <;> first | with_reducible assumption | (intros; refine Int.le_antisymm ?_ ?_ <;> omega) | omega) | assumption | (rw [show Int32.toInt 0 = 0 from rfl]; omega)) (NB_0 rfl) (Nat.lt_succ_self _) H _ ls hP hD hS (lv_sub hl [0, 1, 2, 3, 4] rfl)
  exact False.elim (NB_no (by first | with_reducible assumption | assumption) (by first | (and_intros <;> first | with_reducible assumption | (refine Int.le_antisymm ?_ ?_ <;> omega) | omega) | omega) hex)
