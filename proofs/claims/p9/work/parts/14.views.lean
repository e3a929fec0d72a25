set_option maxRecDepth 20000 in
theorem ggX6_drawWay_X1_beside : GoodIn wsX6_drawWay wsX1_beside := goodIn_r _ [7, 8, 9, 23, 24, 25, 26, 27, 28, 29, 30, 31, 32, 33, 34] (by first | exact rfl | decide +kernel) (by decide +kernel)
set_option maxRecDepth 20000 in
theorem gX6_drawWay_X1_beside : GoodIn wsX6_drawWay (wsV RX6 38 RX1 yX1_beside wsX1_beside) := goodIn_app (goodIn_of _ (by decide +kernel)) ggX6_drawWay_X1_beside
set_option maxRecDepth 20000 in
theorem ggX6_drawWay_X1_isOpen : GoodIn wsX6_drawWay wsX1_isOpen := goodIn_r _ [13, 14, 15, 16, 17, 6, 18, 8, 9, 23, 24, 25, 26, 27, 28, 29, 30, 31, 32, 33, 34] (by first | exact rfl | decide +kernel) (by decide +kernel)
set_option maxRecDepth 20000 in
theorem gX6_drawWay_X1_isOpen : GoodIn wsX6_drawWay (wsV RX6 44 RX1 yX1_isOpen wsX1_isOpen) := goodIn_app (goodIn_of _ (by decide +kernel)) ggX6_drawWay_X1_isOpen
set_option maxRecDepth 20000 in
theorem ggX6_draw_X6_drawWay : GoodIn wsX6_draw wsX6_drawWay := goodIn_r _ [5, 6, 7, 8, 9, 10, 11, 12, 13, 14, 15, 16, 17, 18, 19, 20, 21, 22, 23, 42, 43, 44, 45, 46, 47, 48, 49, 50, 51, 52, 53, 54, 55, 56, 57] (by first | exact rfl | decide +kernel) (by decide +kernel)
set_option maxRecDepth 20000 in
theorem gX6_draw_X6_drawWay : GoodIn wsX6_draw (wsV RX6 24 RX6 yX6_drawWay wsX6_drawWay) := goodIn_app (goodIn_of _ (by decide +kernel)) ggX6_draw_X6_drawWay
set_option maxRecDepth 20000 in
theorem ggX6_draw_X6_reflect : GoodIn wsX6_draw wsX6_reflect := goodIn_r _ [27, 7, 28, 29, 30, 11, 31, 19, 20, 21, 22, 23, 13, 14, 32, 33, 34, 4, 35, 36, 37, 38, 39, 40, 41, 42, 43, 44, 45, 46, 47, 48, 49, 50, 51, 52, 53, 54, 55, 56, 57] (by first | exact rfl | decide +kernel) (by decide +kernel)
set_option maxRecDepth 20000 in
theorem gX6_draw_X6_reflect : GoodIn wsX6_draw (wsV RX6 28 RX6 yX6_reflect wsX6_reflect) := goodIn_app (goodIn_of _ (by decide +kernel)) ggX6_draw_X6_reflect
set_option maxRecDepth 20000 in
theorem ggX6_reflect_X1_isMirror : GoodIn wsX6_reflect wsX1_isMirror := goodIn_r _ [6, 7, 8, 9, 10, 5, 11, 12, 13, 29, 30, 31, 32, 33, 34, 35, 36, 37, 38, 39, 40] (by first | exact rfl | decide +kernel) (by decide +kernel)
set_option maxRecDepth 20000 in
theorem gX6_reflect_X1_isMirror : GoodIn wsX6_reflect (wsV RX6 48 RX1 yX1_isMirror wsX1_isMirror) := goodIn_app (goodIn_of _ (by decide +kernel)) ggX6_reflect_X1_isMirror
set_option maxRecDepth 20000 in
theorem ggX6_reflect_X6_settle : GoodIn wsX6_reflect wsX6_settle := goodIn_r _ [18, 1, 19, 20, 21, 22, 23, 5, 24, 7, 8, 9, 10, 11, 12, 13, 25, 26, 27, 28, 29, 30, 31, 32, 33, 34, 35, 36, 37, 38, 39, 40] (by first | exact rfl | decide +kernel) (by decide +kernel)
set_option maxRecDepth 20000 in
theorem gX6_reflect_X6_settle : GoodIn wsX6_reflect (wsV RX6 51 RX6 yX6_settle wsX6_settle) := goodIn_app (goodIn_of _ (by decide +kernel)) ggX6_reflect_X6_settle
set_option maxRecDepth 20000 in
theorem ggX6_settle_X1_ownerOf : GoodIn wsX6_settle wsX1_ownerOf := goodIn_r _ [8, 9, 10, 11, 12, 7, 13, 14, 15, 20, 21, 22, 23, 24, 25, 26, 27, 28, 29, 30, 31] (by first | exact rfl | decide +kernel) (by decide +kernel)
set_option maxRecDepth 20000 in
theorem gX6_settle_X1_ownerOf : GoodIn wsX6_settle (wsV RX6 55 RX1 yX1_ownerOf wsX1_ownerOf) := goodIn_app (goodIn_of _ (by decide +kernel)) ggX6_settle_X1_ownerOf
theorem dX1_become_0 : decode cX1_become 0 = .ok (.aload_n 0, 1) := by decide +kernel
theorem dX1_become_1 : decode cX1_become 1 = .ok (.aload_n 1, 1) := by decide +kernel
theorem dX1_become_10 : decode cX1_become 10 = .ok (.getfield 15, 3) := by decide +kernel
theorem dX1_become_100 : decode cX1_become 100 = .ok (.getfield 37, 3) := by decide +kernel
theorem dX1_become_103 : decode cX1_become 103 = .ok (.iconst 0, 1) := by decide +kernel
theorem dX1_become_104 : decode cX1_become 104 = .ok (.aload_n 0, 1) := by decide +kernel
theorem dX1_become_105 : decode cX1_become 105 = .ok (.getfield 37, 3) := by decide +kernel
theorem dX1_become_108 : decode cX1_become 108 = .ok (.iconst 0, 1) := by decide +kernel
theorem dX1_become_109 : decode cX1_become 109 = .ok (.bipush 6, 2) := by decide +kernel
theorem dX1_become_111 : decode cX1_become 111 = .ok (.invokestatic 55, 3) := by decide +kernel
theorem dX1_become_114 : decode cX1_become 114 = .ok (.aload_n 1, 1) := by decide +kernel
theorem dX1_become_115 : decode cX1_become 115 = .ok (.getfield 40, 3) := by decide +kernel
theorem dX1_become_118 : decode cX1_become 118 = .ok (.iconst 0, 1) := by decide +kernel
theorem dX1_become_119 : decode cX1_become 119 = .ok (.aload_n 0, 1) := by decide +kernel
theorem dX1_become_120 : decode cX1_become 120 = .ok (.getfield 40, 3) := by decide +kernel
theorem dX1_become_123 : decode cX1_become 123 = .ok (.iconst 0, 1) := by decide +kernel
theorem dX1_become_124 : decode cX1_become 124 = .ok (.bipush 6, 2) := by decide +kernel
theorem dX1_become_126 : decode cX1_become 126 = .ok (.invokestatic 55, 3) := by decide +kernel
theorem dX1_become_129 : decode cX1_become 129 = .ok (.aload_n 1, 1) := by decide +kernel
theorem dX1_become_13 : decode cX1_become 13 = .ok (.putfield 15, 3) := by decide +kernel
theorem dX1_become_130 : decode cX1_become 130 = .ok (.getfield 43, 3) := by decide +kernel
theorem dX1_become_133 : decode cX1_become 133 = .ok (.iconst 0, 1) := by decide +kernel
theorem dX1_become_134 : decode cX1_become 134 = .ok (.aload_n 0, 1) := by decide +kernel
theorem dX1_become_135 : decode cX1_become 135 = .ok (.getfield 43, 3) := by decide +kernel
theorem dX1_become_138 : decode cX1_become 138 = .ok (.iconst 0, 1) := by decide +kernel
theorem dX1_become_139 : decode cX1_become 139 = .ok (.bipush 36, 2) := by decide +kernel
theorem dX1_become_141 : decode cX1_become 141 = .ok (.invokestatic 55, 3) := by decide +kernel
theorem dX1_become_144 : decode cX1_become 144 = .ok (.aload_n 1, 1) := by decide +kernel
theorem dX1_become_145 : decode cX1_become 145 = .ok (.getfield 46, 3) := by decide +kernel
theorem dX1_become_148 : decode cX1_become 148 = .ok (.iconst 0, 1) := by decide +kernel
theorem dX1_become_149 : decode cX1_become 149 = .ok (.aload_n 0, 1) := by decide +kernel
theorem dX1_become_150 : decode cX1_become 150 = .ok (.getfield 46, 3) := by decide +kernel
theorem dX1_become_153 : decode cX1_become 153 = .ok (.iconst 0, 1) := by decide +kernel
theorem dX1_become_154 : decode cX1_become 154 = .ok (.bipush 36, 2) := by decide +kernel
theorem dX1_become_156 : decode cX1_become 156 = .ok (.invokestatic 55, 3) := by decide +kernel
theorem dX1_become_159 : decode cX1_become 159 = .ok (.return_, 1) := by decide +kernel
theorem dX1_become_16 : decode cX1_become 16 = .ok (.aload_n 0, 1) := by decide +kernel
theorem dX1_become_17 : decode cX1_become 17 = .ok (.aload_n 1, 1) := by decide +kernel
theorem dX1_become_18 : decode cX1_become 18 = .ok (.getfield 18, 3) := by decide +kernel
theorem dX1_become_2 : decode cX1_become 2 = .ok (.getfield 9, 3) := by decide +kernel
theorem dX1_become_21 : decode cX1_become 21 = .ok (.putfield 18, 3) := by decide +kernel
theorem dX1_become_24 : decode cX1_become 24 = .ok (.aload_n 1, 1) := by decide +kernel
theorem dX1_become_25 : decode cX1_become 25 = .ok (.getfield 21, 3) := by decide +kernel
theorem dX1_become_28 : decode cX1_become 28 = .ok (.iconst 0, 1) := by decide +kernel
theorem dX1_become_29 : decode cX1_become 29 = .ok (.aload_n 0, 1) := by decide +kernel
theorem dX1_become_30 : decode cX1_become 30 = .ok (.getfield 21, 3) := by decide +kernel
theorem dX1_become_33 : decode cX1_become 33 = .ok (.iconst 0, 1) := by decide +kernel
theorem dX1_become_34 : decode cX1_become 34 = .ok (.bipush 80, 2) := by decide +kernel
theorem dX1_become_36 : decode cX1_become 36 = .ok (.invokestatic 55, 3) := by decide +kernel
theorem dX1_become_39 : decode cX1_become 39 = .ok (.aload_n 1, 1) := by decide +kernel
theorem dX1_become_40 : decode cX1_become 40 = .ok (.getfield 25, 3) := by decide +kernel
theorem dX1_become_43 : decode cX1_become 43 = .ok (.iconst 0, 1) := by decide +kernel
theorem dX1_become_44 : decode cX1_become 44 = .ok (.aload_n 0, 1) := by decide +kernel
theorem dX1_become_45 : decode cX1_become 45 = .ok (.getfield 25, 3) := by decide +kernel
theorem dX1_become_48 : decode cX1_become 48 = .ok (.iconst 0, 1) := by decide +kernel
theorem dX1_become_49 : decode cX1_become 49 = .ok (.bipush 6, 2) := by decide +kernel
theorem dX1_become_5 : decode cX1_become 5 = .ok (.putfield 9, 3) := by decide +kernel
theorem dX1_become_51 : decode cX1_become 51 = .ok (.invokestatic 55, 3) := by decide +kernel
theorem dX1_become_54 : decode cX1_become 54 = .ok (.aload_n 1, 1) := by decide +kernel
theorem dX1_become_55 : decode cX1_become 55 = .ok (.getfield 28, 3) := by decide +kernel
theorem dX1_become_58 : decode cX1_become 58 = .ok (.iconst 0, 1) := by decide +kernel
theorem dX1_become_59 : decode cX1_become 59 = .ok (.aload_n 0, 1) := by decide +kernel
theorem dX1_become_60 : decode cX1_become 60 = .ok (.getfield 28, 3) := by decide +kernel
theorem dX1_become_63 : decode cX1_become 63 = .ok (.iconst 0, 1) := by decide +kernel
theorem dX1_become_64 : decode cX1_become 64 = .ok (.bipush 6, 2) := by decide +kernel
theorem dX1_become_66 : decode cX1_become 66 = .ok (.invokestatic 55, 3) := by decide +kernel
theorem dX1_become_69 : decode cX1_become 69 = .ok (.aload_n 1, 1) := by decide +kernel
theorem dX1_become_70 : decode cX1_become 70 = .ok (.getfield 31, 3) := by decide +kernel
theorem dX1_become_73 : decode cX1_become 73 = .ok (.iconst 0, 1) := by decide +kernel
theorem dX1_become_74 : decode cX1_become 74 = .ok (.aload_n 0, 1) := by decide +kernel
theorem dX1_become_75 : decode cX1_become 75 = .ok (.getfield 31, 3) := by decide +kernel
theorem dX1_become_78 : decode cX1_become 78 = .ok (.iconst 0, 1) := by decide +kernel
theorem dX1_become_79 : decode cX1_become 79 = .ok (.bipush 6, 2) := by decide +kernel
theorem dX1_become_8 : decode cX1_become 8 = .ok (.aload_n 0, 1) := by decide +kernel
theorem dX1_become_81 : decode cX1_become 81 = .ok (.invokestatic 55, 3) := by decide +kernel
theorem dX1_become_84 : decode cX1_become 84 = .ok (.aload_n 1, 1) := by decide +kernel
theorem dX1_become_85 : decode cX1_become 85 = .ok (.getfield 34, 3) := by decide +kernel
theorem dX1_become_88 : decode cX1_become 88 = .ok (.iconst 0, 1) := by decide +kernel
theorem dX1_become_89 : decode cX1_become 89 = .ok (.aload_n 0, 1) := by decide +kernel
theorem dX1_become_9 : decode cX1_become 9 = .ok (.aload_n 1, 1) := by decide +kernel
theorem dX1_become_90 : decode cX1_become 90 = .ok (.getfield 34, 3) := by decide +kernel
theorem dX1_become_93 : decode cX1_become 93 = .ok (.iconst 0, 1) := by decide +kernel
theorem dX1_become_94 : decode cX1_become 94 = .ok (.bipush 6, 2) := by decide +kernel
theorem dX1_become_96 : decode cX1_become 96 = .ok (.invokestatic 55, 3) := by decide +kernel
theorem dX1_become_99 : decode cX1_become 99 = .ok (.aload_n 1, 1) := by decide +kernel
theorem dX6_drawWay_0 : decode cX6_drawWay 0 = .ok (.getstatic 32, 3) := by decide +kernel
theorem dX6_drawWay_10 : decode cX6_drawWay 10 = .ok (.iload_n 2, 1) := by decide +kernel
theorem dX6_drawWay_100 : decode cX6_drawWay 100 = .ok (.iload 7, 2) := by decide +kernel
theorem dX6_drawWay_102 : decode cX6_drawWay 102 = .ok (.ifCond .eq 18, 3) := by decide +kernel
theorem dX6_drawWay_105 : decode cX6_drawWay 105 = .ok (.aload_n 0, 1) := by decide +kernel
theorem dX6_drawWay_106 : decode cX6_drawWay 106 = .ok (.getfield 15, 3) := by decide +kernel
theorem dX6_drawWay_109 : decode cX6_drawWay 109 = .ok (.iload 6, 2) := by decide +kernel
theorem dX6_drawWay_11 : decode cX6_drawWay 11 = .ok (.iaload, 1) := by decide +kernel
theorem dX6_drawWay_111 : decode cX6_drawWay 111 = .ok (.bipush 8, 2) := by decide +kernel
theorem dX6_drawWay_113 : decode cX6_drawWay 113 = .ok (.imul, 1) := by decide +kernel
theorem dX6_drawWay_114 : decode cX6_drawWay 114 = .ok (.iload_n 2, 1) := by decide +kernel
theorem dX6_drawWay_115 : decode cX6_drawWay 115 = .ok (.iadd, 1) := by decide +kernel
theorem dX6_drawWay_116 : decode cX6_drawWay 116 = .ok (.iaload, 1) := by decide +kernel
theorem dX6_drawWay_117 : decode cX6_drawWay 117 = .ok (.goto 5, 3) := by decide +kernel
theorem dX6_drawWay_12 : decode cX6_drawWay 12 = .ok (.imul, 1) := by decide +kernel
theorem dX6_drawWay_120 : decode cX6_drawWay 120 = .ok (.iload 6, 2) := by decide +kernel
theorem dX6_drawWay_122 : decode cX6_drawWay 122 = .ok (.iastore, 1) := by decide +kernel
theorem dX6_drawWay_123 : decode cX6_drawWay 123 = .ok (.iinc 4 1, 3) := by decide +kernel
theorem dX6_drawWay_126 : decode cX6_drawWay 126 = .ok (.goto (-100), 3) := by decide +kernel
theorem dX6_drawWay_129 : decode cX6_drawWay 129 = .ok (.return_, 1) := by decide +kernel
theorem dX6_drawWay_13 : decode cX6_drawWay 13 = .ok (.iadd, 1) := by decide +kernel
theorem dX6_drawWay_14 : decode cX6_drawWay 14 = .ok (.ifCond .le 7, 3) := by decide +kernel
theorem dX6_drawWay_17 : decode cX6_drawWay 17 = .ok (.iconst 1, 1) := by decide +kernel
theorem dX6_drawWay_18 : decode cX6_drawWay 18 = .ok (.goto 4, 3) := by decide +kernel
theorem dX6_drawWay_21 : decode cX6_drawWay 21 = .ok (.iconst 0, 1) := by decide +kernel
theorem dX6_drawWay_22 : decode cX6_drawWay 22 = .ok (.istore_n 3, 1) := by decide +kernel
theorem dX6_drawWay_23 : decode cX6_drawWay 23 = .ok (.iconst 0, 1) := by decide +kernel
theorem dX6_drawWay_24 : decode cX6_drawWay 24 = .ok (.istore 4, 2) := by decide +kernel
theorem dX6_drawWay_26 : decode cX6_drawWay 26 = .ok (.iload 4, 2) := by decide +kernel
theorem dX6_drawWay_28 : decode cX6_drawWay 28 = .ok (.bipush 80, 2) := by decide +kernel
theorem dX6_drawWay_3 : decode cX6_drawWay 3 = .ok (.iload_n 2, 1) := by decide +kernel
theorem dX6_drawWay_30 : decode cX6_drawWay 30 = .ok (.if_icmp .ge 99, 3) := by decide +kernel
theorem dX6_drawWay_33 : decode cX6_drawWay 33 = .ok (.iload_n 3, 1) := by decide +kernel
theorem dX6_drawWay_34 : decode cX6_drawWay 34 = .ok (.ifCond .eq 11, 3) := by decide +kernel
theorem dX6_drawWay_37 : decode cX6_drawWay 37 = .ok (.bipush 79, 2) := by decide +kernel
theorem dX6_drawWay_39 : decode cX6_drawWay 39 = .ok (.iload 4, 2) := by decide +kernel
theorem dX6_drawWay_4 : decode cX6_drawWay 4 = .ok (.iaload, 1) := by decide +kernel
theorem dX6_drawWay_41 : decode cX6_drawWay 41 = .ok (.isub, 1) := by decide +kernel
theorem dX6_drawWay_42 : decode cX6_drawWay 42 = .ok (.goto 5, 3) := by decide +kernel
theorem dX6_drawWay_45 : decode cX6_drawWay 45 = .ok (.iload 4, 2) := by decide +kernel
theorem dX6_drawWay_47 : decode cX6_drawWay 47 = .ok (.istore 5, 2) := by decide +kernel
theorem dX6_drawWay_49 : decode cX6_drawWay 49 = .ok (.aload_n 1, 1) := by decide +kernel
theorem dX6_drawWay_5 : decode cX6_drawWay 5 = .ok (.bipush 10, 2) := by decide +kernel
theorem dX6_drawWay_50 : decode cX6_drawWay 50 = .ok (.iload 5, 2) := by decide +kernel
theorem dX6_drawWay_52 : decode cX6_drawWay 52 = .ok (.iload_n 2, 1) := by decide +kernel
theorem dX6_drawWay_53 : decode cX6_drawWay 53 = .ok (.invokevirtual 38, 3) := by decide +kernel
theorem dX6_drawWay_56 : decode cX6_drawWay 56 = .ok (.istore 6, 2) := by decide +kernel
theorem dX6_drawWay_58 : decode cX6_drawWay 58 = .ok (.aload_n 1, 1) := by decide +kernel
theorem dX6_drawWay_59 : decode cX6_drawWay 59 = .ok (.iload 6, 2) := by decide +kernel
theorem dX6_drawWay_61 : decode cX6_drawWay 61 = .ok (.invokevirtual 44, 3) := by decide +kernel
theorem dX6_drawWay_64 : decode cX6_drawWay 64 = .ok (.istore 7, 2) := by decide +kernel
theorem dX6_drawWay_66 : decode cX6_drawWay 66 = .ok (.aload_n 0, 1) := by decide +kernel
theorem dX6_drawWay_67 : decode cX6_drawWay 67 = .ok (.getfield 9, 3) := by decide +kernel
theorem dX6_drawWay_7 : decode cX6_drawWay 7 = .ok (.getstatic 35, 3) := by decide +kernel
theorem dX6_drawWay_70 : decode cX6_drawWay 70 = .ok (.iload 5, 2) := by decide +kernel
theorem dX6_drawWay_72 : decode cX6_drawWay 72 = .ok (.bipush 8, 2) := by decide +kernel
theorem dX6_drawWay_74 : decode cX6_drawWay 74 = .ok (.imul, 1) := by decide +kernel
theorem dX6_drawWay_75 : decode cX6_drawWay 75 = .ok (.iload_n 2, 1) := by decide +kernel
theorem dX6_drawWay_76 : decode cX6_drawWay 76 = .ok (.iadd, 1) := by decide +kernel
theorem dX6_drawWay_77 : decode cX6_drawWay 77 = .ok (.iload 7, 2) := by decide +kernel
theorem dX6_drawWay_79 : decode cX6_drawWay 79 = .ok (.ifCond .eq 8, 3) := by decide +kernel
theorem dX6_drawWay_82 : decode cX6_drawWay 82 = .ok (.iload 6, 2) := by decide +kernel
theorem dX6_drawWay_84 : decode cX6_drawWay 84 = .ok (.goto 4, 3) := by decide +kernel
theorem dX6_drawWay_87 : decode cX6_drawWay 87 = .ok (.iconst (-1), 1) := by decide +kernel
theorem dX6_drawWay_88 : decode cX6_drawWay 88 = .ok (.iastore, 1) := by decide +kernel
theorem dX6_drawWay_89 : decode cX6_drawWay 89 = .ok (.aload_n 0, 1) := by decide +kernel
theorem dX6_drawWay_90 : decode cX6_drawWay 90 = .ok (.getfield 15, 3) := by decide +kernel
theorem dX6_drawWay_93 : decode cX6_drawWay 93 = .ok (.iload 5, 2) := by decide +kernel
theorem dX6_drawWay_95 : decode cX6_drawWay 95 = .ok (.bipush 8, 2) := by decide +kernel
theorem dX6_drawWay_97 : decode cX6_drawWay 97 = .ok (.imul, 1) := by decide +kernel
theorem dX6_drawWay_98 : decode cX6_drawWay 98 = .ok (.iload_n 2, 1) := by decide +kernel
theorem dX6_drawWay_99 : decode cX6_drawWay 99 = .ok (.iadd, 1) := by decide +kernel
theorem dX6_draw_0 : decode cX6_draw 0 = .ok (.iconst 0, 1) := by decide +kernel
theorem dX6_draw_1 : decode cX6_draw 1 = .ok (.istore_n 2, 1) := by decide +kernel
theorem dX6_draw_10 : decode cX6_draw 10 = .ok (.iload_n 2, 1) := by decide +kernel
theorem dX6_draw_11 : decode cX6_draw 11 = .ok (.invokevirtual 24, 3) := by decide +kernel
theorem dX6_draw_14 : decode cX6_draw 14 = .ok (.iinc 2 1, 3) := by decide +kernel
theorem dX6_draw_17 : decode cX6_draw 17 = .ok (.goto (-15), 3) := by decide +kernel
theorem dX6_draw_2 : decode cX6_draw 2 = .ok (.iload_n 2, 1) := by decide +kernel
theorem dX6_draw_20 : decode cX6_draw 20 = .ok (.iconst 0, 1) := by decide +kernel
theorem dX6_draw_21 : decode cX6_draw 21 = .ok (.istore_n 2, 1) := by decide +kernel
theorem dX6_draw_22 : decode cX6_draw 22 = .ok (.iload_n 2, 1) := by decide +kernel
theorem dX6_draw_23 : decode cX6_draw 23 = .ok (.bipush 80, 2) := by decide +kernel
theorem dX6_draw_25 : decode cX6_draw 25 = .ok (.if_icmp .ge 41, 3) := by decide +kernel
theorem dX6_draw_28 : decode cX6_draw 28 = .ok (.iconst 0, 1) := by decide +kernel
theorem dX6_draw_29 : decode cX6_draw 29 = .ok (.istore_n 3, 1) := by decide +kernel
theorem dX6_draw_3 : decode cX6_draw 3 = .ok (.bipush 8, 2) := by decide +kernel
theorem dX6_draw_30 : decode cX6_draw 30 = .ok (.iload_n 3, 1) := by decide +kernel
theorem dX6_draw_31 : decode cX6_draw 31 = .ok (.iconst 4, 1) := by decide +kernel
theorem dX6_draw_32 : decode cX6_draw 32 = .ok (.if_icmp .ge 28, 3) := by decide +kernel
theorem dX6_draw_35 : decode cX6_draw 35 = .ok (.aload_n 0, 1) := by decide +kernel
theorem dX6_draw_36 : decode cX6_draw 36 = .ok (.aload_n 1, 1) := by decide +kernel
theorem dX6_draw_37 : decode cX6_draw 37 = .ok (.iload_n 2, 1) := by decide +kernel
theorem dX6_draw_38 : decode cX6_draw 38 = .ok (.bipush 8, 2) := by decide +kernel
theorem dX6_draw_40 : decode cX6_draw 40 = .ok (.imul, 1) := by decide +kernel
theorem dX6_draw_41 : decode cX6_draw 41 = .ok (.iload_n 3, 1) := by decide +kernel
theorem dX6_draw_42 : decode cX6_draw 42 = .ok (.iadd, 1) := by decide +kernel
theorem dX6_draw_43 : decode cX6_draw 43 = .ok (.iload_n 2, 1) := by decide +kernel
theorem dX6_draw_44 : decode cX6_draw 44 = .ok (.bipush 8, 2) := by decide +kernel
theorem dX6_draw_46 : decode cX6_draw 46 = .ok (.imul, 1) := by decide +kernel
theorem dX6_draw_47 : decode cX6_draw 47 = .ok (.iload_n 3, 1) := by decide +kernel
theorem dX6_draw_48 : decode cX6_draw 48 = .ok (.iadd, 1) := by decide +kernel
theorem dX6_draw_49 : decode cX6_draw 49 = .ok (.iconst 4, 1) := by decide +kernel
theorem dX6_draw_5 : decode cX6_draw 5 = .ok (.if_icmp .ge 15, 3) := by decide +kernel
theorem dX6_draw_50 : decode cX6_draw 50 = .ok (.iadd, 1) := by decide +kernel
theorem dX6_draw_51 : decode cX6_draw 51 = .ok (.invokevirtual 28, 3) := by decide +kernel
theorem dX6_draw_54 : decode cX6_draw 54 = .ok (.iinc 3 1, 3) := by decide +kernel
theorem dX6_draw_57 : decode cX6_draw 57 = .ok (.goto (-27), 3) := by decide +kernel
theorem dX6_draw_60 : decode cX6_draw 60 = .ok (.iinc 2 1, 3) := by decide +kernel
theorem dX6_draw_63 : decode cX6_draw 63 = .ok (.goto (-41), 3) := by decide +kernel
theorem dX6_draw_66 : decode cX6_draw 66 = .ok (.return_, 1) := by decide +kernel
theorem dX6_draw_8 : decode cX6_draw 8 = .ok (.aload_n 0, 1) := by decide +kernel
theorem dX6_draw_9 : decode cX6_draw 9 = .ok (.aload_n 1, 1) := by decide +kernel
theorem dX6_reflect_0 : decode cX6_reflect 0 = .ok (.aload_n 0, 1) := by decide +kernel
theorem dX6_reflect_1 : decode cX6_reflect 1 = .ok (.getfield 15, 3) := by decide +kernel
theorem dX6_reflect_102 : decode cX6_reflect 102 = .ok (.iload 5, 2) := by decide +kernel
theorem dX6_reflect_104 : decode cX6_reflect 104 = .ok (.iload 7, 2) := by decide +kernel
theorem dX6_reflect_106 : decode cX6_reflect 106 = .ok (.ifCond .eq 7, 3) := by decide +kernel
theorem dX6_reflect_109 : decode cX6_reflect 109 = .ok (.iconst 1, 1) := by decide +kernel
theorem dX6_reflect_110 : decode cX6_reflect 110 = .ok (.goto 4, 3) := by decide +kernel
theorem dX6_reflect_113 : decode cX6_reflect 113 = .ok (.iconst 0, 1) := by decide +kernel
theorem dX6_reflect_114 : decode cX6_reflect 114 = .ok (.invokevirtual 51, 3) := by decide +kernel
theorem dX6_reflect_117 : decode cX6_reflect 117 = .ok (.return_, 1) := by decide +kernel
theorem dX6_reflect_12 : decode cX6_reflect 12 = .ok (.iload_n 3, 1) := by decide +kernel
theorem dX6_reflect_13 : decode cX6_reflect 13 = .ok (.iaload, 1) := by decide +kernel
theorem dX6_reflect_14 : decode cX6_reflect 14 = .ok (.istore 5, 2) := by decide +kernel
theorem dX6_reflect_16 : decode cX6_reflect 16 = .ok (.aload_n 1, 1) := by decide +kernel
theorem dX6_reflect_17 : decode cX6_reflect 17 = .ok (.iload 4, 2) := by decide +kernel
theorem dX6_reflect_19 : decode cX6_reflect 19 = .ok (.invokevirtual 48, 3) := by decide +kernel
theorem dX6_reflect_22 : decode cX6_reflect 22 = .ok (.istore 6, 2) := by decide +kernel
theorem dX6_reflect_24 : decode cX6_reflect 24 = .ok (.aload_n 1, 1) := by decide +kernel
theorem dX6_reflect_25 : decode cX6_reflect 25 = .ok (.iload 5, 2) := by decide +kernel
theorem dX6_reflect_27 : decode cX6_reflect 27 = .ok (.invokevirtual 48, 3) := by decide +kernel
theorem dX6_reflect_30 : decode cX6_reflect 30 = .ok (.istore 7, 2) := by decide +kernel
theorem dX6_reflect_32 : decode cX6_reflect 32 = .ok (.iload 6, 2) := by decide +kernel
theorem dX6_reflect_34 : decode cX6_reflect 34 = .ok (.ifCond .eq 27, 3) := by decide +kernel
theorem dX6_reflect_37 : decode cX6_reflect 37 = .ok (.iload 7, 2) := by decide +kernel
theorem dX6_reflect_39 : decode cX6_reflect 39 = .ok (.ifCond .eq 22, 3) := by decide +kernel
theorem dX6_reflect_4 : decode cX6_reflect 4 = .ok (.iload_n 2, 1) := by decide +kernel
theorem dX6_reflect_42 : decode cX6_reflect 42 = .ok (.aload_n 0, 1) := by decide +kernel
theorem dX6_reflect_43 : decode cX6_reflect 43 = .ok (.aload_n 1, 1) := by decide +kernel
theorem dX6_reflect_44 : decode cX6_reflect 44 = .ok (.iload_n 2, 1) := by decide +kernel
theorem dX6_reflect_45 : decode cX6_reflect 45 = .ok (.iconst (-1), 1) := by decide +kernel
theorem dX6_reflect_46 : decode cX6_reflect 46 = .ok (.iconst 2, 1) := by decide +kernel
theorem dX6_reflect_47 : decode cX6_reflect 47 = .ok (.invokevirtual 51, 3) := by decide +kernel
theorem dX6_reflect_5 : decode cX6_reflect 5 = .ok (.iaload, 1) := by decide +kernel
theorem dX6_reflect_50 : decode cX6_reflect 50 = .ok (.aload_n 0, 1) := by decide +kernel
theorem dX6_reflect_51 : decode cX6_reflect 51 = .ok (.aload_n 1, 1) := by decide +kernel
theorem dX6_reflect_52 : decode cX6_reflect 52 = .ok (.iload_n 3, 1) := by decide +kernel
theorem dX6_reflect_53 : decode cX6_reflect 53 = .ok (.iconst (-1), 1) := by decide +kernel
theorem dX6_reflect_54 : decode cX6_reflect 54 = .ok (.iconst 2, 1) := by decide +kernel
theorem dX6_reflect_55 : decode cX6_reflect 55 = .ok (.invokevirtual 51, 3) := by decide +kernel
theorem dX6_reflect_58 : decode cX6_reflect 58 = .ok (.goto 59, 3) := by decide +kernel
theorem dX6_reflect_6 : decode cX6_reflect 6 = .ok (.istore 4, 2) := by decide +kernel
theorem dX6_reflect_61 : decode cX6_reflect 61 = .ok (.aload_n 0, 1) := by decide +kernel
theorem dX6_reflect_62 : decode cX6_reflect 62 = .ok (.aload_n 1, 1) := by decide +kernel
theorem dX6_reflect_63 : decode cX6_reflect 63 = .ok (.iload_n 2, 1) := by decide +kernel
theorem dX6_reflect_64 : decode cX6_reflect 64 = .ok (.iload 6, 2) := by decide +kernel
theorem dX6_reflect_66 : decode cX6_reflect 66 = .ok (.ifCond .eq 8, 3) := by decide +kernel
theorem dX6_reflect_69 : decode cX6_reflect 69 = .ok (.iload 5, 2) := by decide +kernel
theorem dX6_reflect_71 : decode cX6_reflect 71 = .ok (.goto 5, 3) := by decide +kernel
theorem dX6_reflect_74 : decode cX6_reflect 74 = .ok (.iload 4, 2) := by decide +kernel
theorem dX6_reflect_76 : decode cX6_reflect 76 = .ok (.iload 6, 2) := by decide +kernel
theorem dX6_reflect_78 : decode cX6_reflect 78 = .ok (.ifCond .eq 7, 3) := by decide +kernel
theorem dX6_reflect_8 : decode cX6_reflect 8 = .ok (.aload_n 0, 1) := by decide +kernel
theorem dX6_reflect_81 : decode cX6_reflect 81 = .ok (.iconst 1, 1) := by decide +kernel
theorem dX6_reflect_82 : decode cX6_reflect 82 = .ok (.goto 4, 3) := by decide +kernel
theorem dX6_reflect_85 : decode cX6_reflect 85 = .ok (.iconst 0, 1) := by decide +kernel
theorem dX6_reflect_86 : decode cX6_reflect 86 = .ok (.invokevirtual 51, 3) := by decide +kernel
theorem dX6_reflect_89 : decode cX6_reflect 89 = .ok (.aload_n 0, 1) := by decide +kernel
theorem dX6_reflect_9 : decode cX6_reflect 9 = .ok (.getfield 15, 3) := by decide +kernel
theorem dX6_reflect_90 : decode cX6_reflect 90 = .ok (.aload_n 1, 1) := by decide +kernel
theorem dX6_reflect_91 : decode cX6_reflect 91 = .ok (.iload_n 3, 1) := by decide +kernel
theorem dX6_reflect_92 : decode cX6_reflect 92 = .ok (.iload 7, 2) := by decide +kernel
theorem dX6_reflect_94 : decode cX6_reflect 94 = .ok (.ifCond .eq 8, 3) := by decide +kernel
theorem dX6_reflect_97 : decode cX6_reflect 97 = .ok (.iload 4, 2) := by decide +kernel
theorem dX6_reflect_99 : decode cX6_reflect 99 = .ok (.goto 5, 3) := by decide +kernel
theorem dX6_settle_0 : decode cX6_settle 0 = .ok (.aload_n 0, 1) := by decide +kernel
theorem dX6_settle_1 : decode cX6_settle 1 = .ok (.getfield 15, 3) := by decide +kernel
theorem dX6_settle_11 : decode cX6_settle 11 = .ok (.iload_n 2, 1) := by decide +kernel
theorem dX6_settle_12 : decode cX6_settle 12 = .ok (.iload 4, 2) := by decide +kernel
theorem dX6_settle_14 : decode cX6_settle 14 = .ok (.iastore, 1) := by decide +kernel
theorem dX6_settle_15 : decode cX6_settle 15 = .ok (.aload_n 0, 1) := by decide +kernel
theorem dX6_settle_16 : decode cX6_settle 16 = .ok (.getfield 21, 3) := by decide +kernel
theorem dX6_settle_19 : decode cX6_settle 19 = .ok (.iload_n 2, 1) := by decide +kernel
theorem dX6_settle_20 : decode cX6_settle 20 = .ok (.aload_n 1, 1) := by decide +kernel
theorem dX6_settle_21 : decode cX6_settle 21 = .ok (.iload_n 3, 1) := by decide +kernel
theorem dX6_settle_22 : decode cX6_settle 22 = .ok (.invokevirtual 55, 3) := by decide +kernel
theorem dX6_settle_25 : decode cX6_settle 25 = .ok (.iastore, 1) := by decide +kernel
theorem dX6_settle_26 : decode cX6_settle 26 = .ok (.return_, 1) := by decide +kernel
theorem dX6_settle_4 : decode cX6_settle 4 = .ok (.iload_n 2, 1) := by decide +kernel
theorem dX6_settle_5 : decode cX6_settle 5 = .ok (.iload_n 3, 1) := by decide +kernel
theorem dX6_settle_6 : decode cX6_settle 6 = .ok (.iastore, 1) := by decide +kernel
theorem dX6_settle_7 : decode cX6_settle 7 = .ok (.aload_n 0, 1) := by decide +kernel
theorem dX6_settle_8 : decode cX6_settle 8 = .ok (.getfield 18, 3) := by decide +kernel
theorem dX6_times_0 : decode cX6_times 0 = .ok (.iconst 1, 1) := by decide +kernel
theorem dX6_times_1 : decode cX6_times 1 = .ok (.aload_n 0, 1) := by decide +kernel
theorem dX6_times_2 : decode cX6_times 2 = .ok (.getfield 18, 3) := by decide +kernel
theorem dX6_times_5 : decode cX6_times 5 = .ok (.iload_n 1, 1) := by decide +kernel
theorem dX6_times_6 : decode cX6_times 6 = .ok (.iaload, 1) := by decide +kernel
theorem dX6_times_7 : decode cX6_times 7 = .ok (.iadd, 1) := by decide +kernel
theorem dX6_times_8 : decode cX6_times 8 = .ok (.ireturn, 1) := by decide +kernel
theorem jX1_become_X1 : ∀ w ∈ u_ws RX1 TX1 12, w ∈ wsX1_become := fun w h => List.mem_cons_of_mem _ (List.mem_append_right _ h)
theorem jX6_drawWay_X6 : ∀ w ∈ u_ws RX6 TX6 4, w ∈ wsX6_drawWay := fun w h => List.mem_cons_of_mem _ (List.mem_append_left _ (List.mem_append_right _ h))
theorem jX6_reflect_X6 : ∀ w ∈ u_ws RX6 TX6 4, w ∈ wsX6_reflect := fun w h => List.mem_cons_of_mem _ (List.mem_append_left _ (List.mem_append_right _ h))
theorem jX6_settle_X6 : ∀ w ∈ u_ws RX6 TX6 4, w ∈ wsX6_settle := fun w h => List.mem_cons_of_mem _ (List.mem_append_left _ (List.mem_append_right _ h))
theorem jX6_times_X6 : ∀ w ∈ u_ws RX6 TX6 4, w ∈ wsX6_times := fun w h => List.mem_cons_of_mem _ (List.mem_append_right _ h)
theorem hdV_X6_drawWay : yX6_drawWay.cls = RX6 ∧ yX6_drawWay.cls ≠ "java/lang/invoke/MethodHandle" ∧ yX6_drawWay.cls ≠ "java/lang/invoke/VarHandle" ∧ (parseMethodDescriptor yX6_drawWay.desc).map (fun d => d.parameters.length) = some 2 := by decide +kernel
theorem hdV_X6_reflect : yX6_reflect.cls = RX6 ∧ yX6_reflect.cls ≠ "java/lang/invoke/MethodHandle" ∧ yX6_reflect.cls ≠ "java/lang/invoke/VarHandle" ∧ (parseMethodDescriptor yX6_reflect.desc).map (fun d => d.parameters.length) = some 3 := by decide +kernel
theorem hdV_X6_settle : yX6_settle.cls = RX6 ∧ yX6_settle.cls ≠ "java/lang/invoke/MethodHandle" ∧ yX6_settle.cls ≠ "java/lang/invoke/VarHandle" ∧ (parseMethodDescriptor yX6_settle.desc).map (fun d => d.parameters.length) = some 4 := by decide +kernel
def agr (n : Nat) (f g : Nat → Int32) : Prop := ∀ j : Nat, j < n → f j = g j
theorem agr_cpy {f g h : Nat → Int32} {k : Int32} {N : Nat} (e : va_cpy f g (0 : Int32).toNatClampNeg (0 : Int32).toNatClampNeg k.toNatClampNeg = h) (hk : k.toNatClampNeg = N) : agr N h f := by
  intro j hj
  rw [← e, hk]
  show (if 0 ≤ j ∧ j < 0 + N then f (0 + (j - 0)) else g j) = f j
  rw [if_pos (by omega)]
  exact congrArg f (by omega)
set_option maxHeartbeats 4000000 in
set_option maxRecDepth 100000 in
theorem s_X1_become (l : Launch) (D : va_G) (cI cZ cC cS : ClassId) (sq : Nat → Nat) (sz : Nat) (ct : Nat) (aCells : Nat) (aPrices : Nat) (aFree : Nat) (aPlaces : Nat) (aHomes : Nat) (aManners : Nat) (aGone : Nat) (aPaid : Nat) (aBlinks : Nat) (ot : Nat) (oaCells : Nat) (oaPrices : Nat) (oaFree : Nat) (oaPlaces : Nat) (oaHomes : Nat) (oaManners : Nat) (oaGone : Nat) (oaPaid : Nat) (oaBlinks : Nat) (cw : Int32) (ch : Int32) (cp : Int32) (fc : Nat → Int32) (fp : Nat → Int32) (ff : Nat → Int32) (fl : Nat → Int32) (fh : Nat → Int32) (fm : Nat → Int32) (fg : Nat → Int32) (fd : Nat → Int32) (fb : Nat → Int32) (ow_ : Int32) (oh : Int32) (op : Int32) (fco : Nat → Int32) (fpo : Nat → Int32) (ffo : Nat → Int32) (flo : Nat → Int32) (fho : Nat → Int32) (fmo : Nat → Int32) (fgo : Nat → Int32) (fdo : Nat → Int32) (fbo : Nat → Int32) (hrg_fc : rng fc 80 (-1) (8)) (hrg_fl : rng fl 6 (0) (79)) (hrg_fh : rng fh 6 (0) (79)) (hrg_fco : rng fco 80 (-1) (8)) (hrg_flo : rng flo 6 (0) (79)) (hrg_fho : rng fho 6 (0) (79)) : mV l yX1_become wsX1_become 1 40 0 0 D (tyW cI cZ cC cS) sq [(ct, .inr (1, [.int cw, .int ch, .int cp, .ref aCells, .ref aPrices, .ref aFree, .ref aPlaces, .ref aHomes, .ref aManners, .ref aGone, .ref aPaid, .ref aBlinks])), (aCells, .inl (cI, 80, .inl fc)), (aPrices, .inl (cI, 6, .inl fp)), (aFree, .inl (cI, 6, .inl ff)), (aPlaces, .inl (cI, 6, .inl fl)), (aHomes, .inl (cI, 6, .inl fh)), (aManners, .inl (cI, 6, .inl fm)), (aGone, .inl (cI, 6, .inl fg)), (aPaid, .inl (cI, 36, .inl fd)), (aBlinks, .inl (cI, 36, .inl fb)), (ot, .inr (1, [.int ow_, .int oh, .int op, .ref oaCells, .ref oaPrices, .ref oaFree, .ref oaPlaces, .ref oaHomes, .ref oaManners, .ref oaGone, .ref oaPaid, .ref oaBlinks])), (oaCells, .inl (cI, 80, .inl fco)), (oaPrices, .inl (cI, 6, .inl fpo)), (oaFree, .inl (cI, 6, .inl ffo)), (oaPlaces, .inl (cI, 6, .inl flo)), (oaHomes, .inl (cI, 6, .inl fho)), (oaManners, .inl (cI, 6, .inl fmo)), (oaGone, .inl (cI, 6, .inl fgo)), (oaPaid, .inl (cI, 36, .inl fdo)), (oaBlinks, .inl (cI, 36, .inl fbo))] sz [.ref ct, .ref ot] (fun w => (∃ (fcn : Nat → Int32), ∃ (fpn : Nat → Int32), ∃ (ffn : Nat → Int32), ∃ (fln : Nat → Int32), ∃ (fhn : Nat → Int32), ∃ (fmn : Nat → Int32), ∃ (fgn : Nat → Int32), ∃ (fdn : Nat → Int32), ∃ (fbn : Nat → Int32), (rng fcn 80 (-1) (8)) ∧ (rng fln 6 (0) (79)) ∧ (rng fhn 6 (0) (79)) ∧ (agr 80 fcn fco) ∧ (agr 6 fpn fpo) ∧ (agr 6 ffn ffo) ∧ (agr 6 fln flo) ∧ (agr 6 fhn fho) ∧ (agr 6 fmn fmo) ∧ (agr 6 fgn fgo) ∧ (agr 36 fdn fdo) ∧ (agr 36 fbn fbo) ∧ w = [(ct, .inr (1, [.int ow_, .int oh, .int op, .ref aCells, .ref aPrices, .ref aFree, .ref aPlaces, .ref aHomes, .ref aManners, .ref aGone, .ref aPaid, .ref aBlinks])), (aCells, .inl (cI, 80, .inl fcn)), (aPrices, .inl (cI, 6, .inl fpn)), (aFree, .inl (cI, 6, .inl ffn)), (aPlaces, .inl (cI, 6, .inl fln)), (aHomes, .inl (cI, 6, .inl fhn)), (aManners, .inl (cI, 6, .inl fmn)), (aGone, .inl (cI, 6, .inl fgn)), (aPaid, .inl (cI, 36, .inl fdn)), (aBlinks, .inl (cI, 36, .inl fbn)), (ot, .inr (1, [.int ow_, .int oh, .int op, .ref oaCells, .ref oaPrices, .ref oaFree, .ref oaPlaces, .ref oaHomes, .ref oaManners, .ref oaGone, .ref oaPaid, .ref oaBlinks])), (oaCells, .inl (cI, 80, .inl fco)), (oaPrices, .inl (cI, 6, .inl fpo)), (oaFree, .inl (cI, 6, .inl ffo)), (oaPlaces, .inl (cI, 6, .inl flo)), (oaHomes, .inl (cI, 6, .inl fho)), (oaManners, .inl (cI, 6, .inl fmo)), (oaGone, .inl (cI, 6, .inl fgo)), (oaPaid, .inl (cI, 36, .inl fdo)), (oaBlinks, .inl (cI, 36, .inl fbo))])) := by
  refine b_metV (cc := cX1_become) (maxL := 2) (ret := none) (by decide) rfl (Nat.le_of_ble_eq_true rfl) ?_
  intro p e s m below meth c ls A H X hsz hP hK hT hD hA hS hl
  have S : CallFix p m c cX1_become 2 s ([.ref ct, .ref ot] : List Value).toArray wsX1_become RX1 := X.1
  have hl : lv_has ls 2 [(0, .ref ct), (1, .ref ot)] := hl
  have iX1 := jX1_become_X1
  refine lv_aload_n S.1 S.2.1 dX1_become_0 rfl (lv_at hl 0 rfl) ?_
  refine lv_aload_n S.1 S.2.1 dX1_become_1 rfl (lv_at hl 1 rfl) ?_
  refine b_get (v := .int ow_) S iX1 hK hP 10 rfl rfl 0 (by decide) (by decide +kernel) rfl dX1_become_2 ?_
  refine b_put (v := .int ow_) S iX1 tyX1 tyX1_ok nmX1 hK hP hD hS 0 rfl rfl 0 (by decide) (by decide +kernel) rfl rfl rfl (Nat.le_of_ble_eq_true rfl) dX1_become_5 (fun H locs hP hD hS => ?_)
  have hP : va_P D vwCl [(ct, .inr (1, [.int ow_, .int ch, .int cp, .ref aCells, .ref aPrices, .ref aFree, .ref aPlaces, .ref aHomes, .ref aManners, .ref aGone, .ref aPaid, .ref aBlinks])), (aCells, .inl (cI, 80, .inl fc)), (aPrices, .inl (cI, 6, .inl fp)), (aFree, .inl (cI, 6, .inl ff)), (aPlaces, .inl (cI, 6, .inl fl)), (aHomes, .inl (cI, 6, .inl fh)), (aManners, .inl (cI, 6, .inl fm)), (aGone, .inl (cI, 6, .inl fg)), (aPaid, .inl (cI, 36, .inl fd)), (aBlinks, .inl (cI, 36, .inl fb)), (ot, .inr (1, [.int ow_, .int oh, .int op, .ref oaCells, .ref oaPrices, .ref oaFree, .ref oaPlaces, .ref oaHomes, .ref oaManners, .ref oaGone, .ref oaPaid, .ref oaBlinks])), (oaCells, .inl (cI, 80, .inl fco)), (oaPrices, .inl (cI, 6, .inl fpo)), (oaFree, .inl (cI, 6, .inl ffo)), (oaPlaces, .inl (cI, 6, .inl flo)), (oaHomes, .inl (cI, 6, .inl fho)), (oaManners, .inl (cI, 6, .inl fmo)), (oaGone, .inl (cI, 6, .inl fgo)), (oaPaid, .inl (cI, 36, .inl fdo)), (oaBlinks, .inl (cI, 36, .inl fbo))] H := hP
  have hD : va_D A [(ct, .inr (1, [.int ow_, .int ch, .int cp, .ref aCells, .ref aPrices, .ref aFree, .ref aPlaces, .ref aHomes, .ref aManners, .ref aGone, .ref aPaid, .ref aBlinks])), (aCells, .inl (cI, 80, .inl fc)), (aPrices, .inl (cI, 6, .inl fp)), (aFree, .inl (cI, 6, .inl ff)), (aPlaces, .inl (cI, 6, .inl fl)), (aHomes, .inl (cI, 6, .inl fh)), (aManners, .inl (cI, 6, .inl fm)), (aGone, .inl (cI, 6, .inl fg)), (aPaid, .inl (cI, 36, .inl fd)), (aBlinks, .inl (cI, 36, .inl fb)), (ot, .inr (1, [.int ow_, .int oh, .int op, .ref oaCells, .ref oaPrices, .ref oaFree, .ref oaPlaces, .ref oaHomes, .ref oaManners, .ref oaGone, .ref oaPaid, .ref oaBlinks])), (oaCells, .inl (cI, 80, .inl fco)), (oaPrices, .inl (cI, 6, .inl fpo)), (oaFree, .inl (cI, 6, .inl ffo)), (oaPlaces, .inl (cI, 6, .inl flo)), (oaHomes, .inl (cI, 6, .inl fho)), (oaManners, .inl (cI, 6, .inl fmo)), (oaGone, .inl (cI, 6, .inl fgo)), (oaPaid, .inl (cI, 36, .inl fdo)), (oaBlinks, .inl (cI, 36, .inl fbo))] := hD
  refine lv_aload_n S.1 S.2.1 dX1_become_8 rfl (lv_at hl 0 rfl) ?_
  refine lv_aload_n S.1 S.2.1 dX1_become_9 rfl (lv_at hl 1 rfl) ?_
  refine b_get (v := .int oh) S iX1 hK hP 10 rfl rfl 1 (by decide) (by decide +kernel) rfl dX1_become_10 ?_
  refine b_put (v := .int oh) S iX1 tyX1 tyX1_ok nmX1 hK hP hD hS 0 rfl rfl 1 (by decide) (by decide +kernel) rfl rfl rfl (Nat.le_of_ble_eq_true rfl) dX1_become_13 (fun H locs hP hD hS => ?_)
  have hP : va_P D vwCl [(ct, .inr (1, [.int ow_, .int oh, .int cp, .ref aCells, .ref aPrices, .ref aFree, .ref aPlaces, .ref aHomes, .ref aManners, .ref aGone, .ref aPaid, .ref aBlinks])), (aCells, .inl (cI, 80, .inl fc)), (aPrices, .inl (cI, 6, .inl fp)), (aFree, .inl (cI, 6, .inl ff)), (aPlaces, .inl (cI, 6, .inl fl)), (aHomes, .inl (cI, 6, .inl fh)), (aManners, .inl (cI, 6, .inl fm)), (aGone, .inl (cI, 6, .inl fg)), (aPaid, .inl (cI, 36, .inl fd)), (aBlinks, .inl (cI, 36, .inl fb)), (ot, .inr (1, [.int ow_, .int oh, .int op, .ref oaCells, .ref oaPrices, .ref oaFree, .ref oaPlaces, .ref oaHomes, .ref oaManners, .ref oaGone, .ref oaPaid, .ref oaBlinks])), (oaCells, .inl (cI, 80, .inl fco)), (oaPrices, .inl (cI, 6, .inl fpo)), (oaFree, .inl (cI, 6, .inl ffo)), (oaPlaces, .inl (cI, 6, .inl flo)), (oaHomes, .inl (cI, 6, .inl fho)), (oaManners, .inl (cI, 6, .inl fmo)), (oaGone, .inl (cI, 6, .inl fgo)), (oaPaid, .inl (cI, 36, .inl fdo)), (oaBlinks, .inl (cI, 36, .inl fbo))] H := hP
  have hD : va_D A [(ct, .inr (1, [.int ow_, .int oh, .int cp, .ref aCells, .ref aPrices, .ref aFree, .ref aPlaces, .ref aHomes, .ref aManners, .ref aGone, .ref aPaid, .ref aBlinks])), (aCells, .inl (cI, 80, .inl fc)), (aPrices, .inl (cI, 6, .inl fp)), (aFree, .inl (cI, 6, .inl ff)), (aPlaces, .inl (cI, 6, .inl fl)), (aHomes, .inl (cI, 6, .inl fh)), (aManners, .inl (cI, 6, .inl fm)), (aGone, .inl (cI, 6, .inl fg)), (aPaid, .inl (cI, 36, .inl fd)), (aBlinks, .inl (cI, 36, .inl fb)), (ot, .inr (1, [.int ow_, .int oh, .int op, .ref oaCells, .ref oaPrices, .ref oaFree, .ref oaPlaces, .ref oaHomes, .ref oaManners, .ref oaGone, .ref oaPaid, .ref oaBlinks])), (oaCells, .inl (cI, 80, .inl fco)), (oaPrices, .inl (cI, 6, .inl fpo)), (oaFree, .inl (cI, 6, .inl ffo)), (oaPlaces, .inl (cI, 6, .inl flo)), (oaHomes, .inl (cI, 6, .inl fho)), (oaManners, .inl (cI, 6, .inl fmo)), (oaGone, .inl (cI, 6, .inl fgo)), (oaPaid, .inl (cI, 36, .inl fdo)), (oaBlinks, .inl (cI, 36, .inl fbo))] := hD
  refine lv_aload_n S.1 S.2.1 dX1_become_16 rfl (lv_at hl 0 rfl) ?_
  refine lv_aload_n S.1 S.2.1 dX1_become_17 rfl (lv_at hl 1 rfl) ?_
  refine b_get (v := .int op) S iX1 hK hP 10 rfl rfl 2 (by decide) (by decide +kernel) rfl dX1_become_18 ?_
  refine b_put (v := .int op) S iX1 tyX1 tyX1_ok nmX1 hK hP hD hS 0 rfl rfl 2 (by decide) (by decide +kernel) rfl rfl rfl (Nat.le_of_ble_eq_true rfl) dX1_become_21 (fun H locs hP hD hS => ?_)
  have hP : va_P D vwCl [(ct, .inr (1, [.int ow_, .int oh, .int op, .ref aCells, .ref aPrices, .ref aFree, .ref aPlaces, .ref aHomes, .ref aManners, .ref aGone, .ref aPaid, .ref aBlinks])), (aCells, .inl (cI, 80, .inl fc)), (aPrices, .inl (cI, 6, .inl fp)), (aFree, .inl (cI, 6, .inl ff)), (aPlaces, .inl (cI, 6, .inl fl)), (aHomes, .inl (cI, 6, .inl fh)), (aManners, .inl (cI, 6, .inl fm)), (aGone, .inl (cI, 6, .inl fg)), (aPaid, .inl (cI, 36, .inl fd)), (aBlinks, .inl (cI, 36, .inl fb)), (ot, .inr (1, [.int ow_, .int oh, .int op, .ref oaCells, .ref oaPrices, .ref oaFree, .ref oaPlaces, .ref oaHomes, .ref oaManners, .ref oaGone, .ref oaPaid, .ref oaBlinks])), (oaCells, .inl (cI, 80, .inl fco)), (oaPrices, .inl (cI, 6, .inl fpo)), (oaFree, .inl (cI, 6, .inl ffo)), (oaPlaces, .inl (cI, 6, .inl flo)), (oaHomes, .inl (cI, 6, .inl fho)), (oaManners, .inl (cI, 6, .inl fmo)), (oaGone, .inl (cI, 6, .inl fgo)), (oaPaid, .inl (cI, 36, .inl fdo)), (oaBlinks, .inl (cI, 36, .inl fbo))] H := hP
  have hD : va_D A [(ct, .inr (1, [.int ow_, .int oh, .int op, .ref aCells, .ref aPrices, .ref aFree, .ref aPlaces, .ref aHomes, .ref aManners, .ref aGone, .ref aPaid, .ref aBlinks])), (aCells, .inl (cI, 80, .inl fc)), (aPrices, .inl (cI, 6, .inl fp)), (aFree, .inl (cI, 6, .inl ff)), (aPlaces, .inl (cI, 6, .inl fl)), (aHomes, .inl (cI, 6, .inl fh)), (aManners, .inl (cI, 6, .inl fm)), (aGone, .inl (cI, 6, .inl fg)), (aPaid, .inl (cI, 36, .inl fd)), (aBlinks, .inl (cI, 36, .inl fb)), (ot, .inr (1, [.int ow_, .int oh, .int op, .ref oaCells, .ref oaPrices, .ref oaFree, .ref oaPlaces, .ref oaHomes, .ref oaManners, .ref oaGone, .ref oaPaid, .ref oaBlinks])), (oaCells, .inl (cI, 80, .inl fco)), (oaPrices, .inl (cI, 6, .inl fpo)), (oaFree, .inl (cI, 6, .inl ffo)), (oaPlaces, .inl (cI, 6, .inl flo)), (oaHomes, .inl (cI, 6, .inl fho)), (oaManners, .inl (cI, 6, .inl fmo)), (oaGone, .inl (cI, 6, .inl fgo)), (oaPaid, .inl (cI, 36, .inl fdo)), (oaBlinks, .inl (cI, 36, .inl fbo))] := hD
  refine lv_aload_n S.1 S.2.1 dX1_become_24 rfl (lv_at hl 1 rfl) ?_
  refine b_get (v := .ref oaCells) S iX1 hK hP 10 rfl rfl 3 (by decide) (by decide +kernel) rfl dX1_become_25 ?_
  refine lv_iconst (v := (0)) S.1 S.2.1 dX1_become_28 (by decide) ?_
  refine lv_aload_n S.1 S.2.1 dX1_become_29 rfl (lv_at hl 0 rfl) ?_
  refine b_get (v := .ref aCells) S iX1 hK hP 0 rfl rfl 3 (by decide) (by decide +kernel) rfl dX1_become_30 ?_
  refine lv_iconst (v := (0)) S.1 S.2.1 dX1_become_33 (by decide) ?_
  refine lv_bipush (v := (80)) S.1 S.2.1 dX1_become_34 (by decide) ?_
  refine va_copyi (ty := .int) S.1 S.2.1 (S.2.2.1.trans hl.1.symm) S.2.2.2.1 (S.2.2.2.2 (.methodLink RX1 55 arraycopyName) (by decide +kernel)) (S.2.2.2.2 (.native arraycopyName) (by decide +kernel)) (S.2.2.2.2 (.static arraycopyName) (by decide +kernel)) (S.2.2.2.2 (.initialized "java/lang/System") (by decide +kernel)) hK.1 hP hD hS 11 1 0 0 rfl rfl rfl rfl rfl (by decide) (by decide) (by decide) (cpy_le (A := 0) (B := 80) rfl rfl (by omega) (by omega) (by omega)) (cpy_le (A := 0) (B := 80) rfl rfl (by omega) (by omega) (by omega)) (fun _ _ => rfl) (Nat.le_of_ble_eq_true rfl) (Nat.le_of_ble_eq_true rfl) dX1_become_36 (fun H locs hP hD hS => ?_)
  obtain ⟨f_1, hf_1, rf_1⟩ : ∃ g, (va_cpy fco fc (0 : Int32).toNatClampNeg (0 : Int32).toNatClampNeg (80 : Int32).toNatClampNeg) = g ∧ rng g 80 (-1) (8) := ⟨_, rfl, rng_cpy (by assumption) (by assumption) (cpy_le (A := 0) (B := 80) rfl rfl (by omega) (by omega) (by omega))⟩
  have hP : va_P D vwCl [(ct, .inr (1, [.int ow_, .int oh, .int op, .ref aCells, .ref aPrices, .ref aFree, .ref aPlaces, .ref aHomes, .ref aManners, .ref aGone, .ref aPaid, .ref aBlinks])), (aCells, .inl (cI, 80, .inl (va_cpy fco fc (0 : Int32).toNatClampNeg (0 : Int32).toNatClampNeg (80 : Int32).toNatClampNeg))), (aPrices, .inl (cI, 6, .inl fp)), (aFree, .inl (cI, 6, .inl ff)), (aPlaces, .inl (cI, 6, .inl fl)), (aHomes, .inl (cI, 6, .inl fh)), (aManners, .inl (cI, 6, .inl fm)), (aGone, .inl (cI, 6, .inl fg)), (aPaid, .inl (cI, 36, .inl fd)), (aBlinks, .inl (cI, 36, .inl fb)), (ot, .inr (1, [.int ow_, .int oh, .int op, .ref oaCells, .ref oaPrices, .ref oaFree, .ref oaPlaces, .ref oaHomes, .ref oaManners, .ref oaGone, .ref oaPaid, .ref oaBlinks])), (oaCells, .inl (cI, 80, .inl fco)), (oaPrices, .inl (cI, 6, .inl fpo)), (oaFree, .inl (cI, 6, .inl ffo)), (oaPlaces, .inl (cI, 6, .inl flo)), (oaHomes, .inl (cI, 6, .inl fho)), (oaManners, .inl (cI, 6, .inl fmo)), (oaGone, .inl (cI, 6, .inl fgo)), (oaPaid, .inl (cI, 36, .inl fdo)), (oaBlinks, .inl (cI, 36, .inl fbo))] H := hP
  have hD : va_D A [(ct, .inr (1, [.int ow_, .int oh, .int op, .ref aCells, .ref aPrices, .ref aFree, .ref aPlaces, .ref aHomes, .ref aManners, .ref aGone, .ref aPaid, .ref aBlinks])), (aCells, .inl (cI, 80, .inl (va_cpy fco fc (0 : Int32).toNatClampNeg (0 : Int32).toNatClampNeg (80 : Int32).toNatClampNeg))), (aPrices, .inl (cI, 6, .inl fp)), (aFree, .inl (cI, 6, .inl ff)), (aPlaces, .inl (cI, 6, .inl fl)), (aHomes, .inl (cI, 6, .inl fh)), (aManners, .inl (cI, 6, .inl fm)), (aGone, .inl (cI, 6, .inl fg)), (aPaid, .inl (cI, 36, .inl fd)), (aBlinks, .inl (cI, 36, .inl fb)), (ot, .inr (1, [.int ow_, .int oh, .int op, .ref oaCells, .ref oaPrices, .ref oaFree, .ref oaPlaces, .ref oaHomes, .ref oaManners, .ref oaGone, .ref oaPaid, .ref oaBlinks])), (oaCells, .inl (cI, 80, .inl fco)), (oaPrices, .inl (cI, 6, .inl fpo)), (oaFree, .inl (cI, 6, .inl ffo)), (oaPlaces, .inl (cI, 6, .inl flo)), (oaHomes, .inl (cI, 6, .inl fho)), (oaManners, .inl (cI, 6, .inl fmo)), (oaGone, .inl (cI, 6, .inl fgo)), (oaPaid, .inl (cI, 36, .inl fdo)), (oaBlinks, .inl (cI, 36, .inl fbo))] := hD
  rw [hf_1] at hP hD
  refine lv_aload_n S.1 S.2.1 dX1_become_39 rfl (lv_at hl 1 rfl) ?_
  refine b_get (v := .ref oaPrices) S iX1 hK hP 10 rfl rfl 4 (by decide) (by decide +kernel) rfl dX1_become_40 ?_
  refine lv_iconst (v := (0)) S.1 S.2.1 dX1_become_43 (by decide) ?_
  refine lv_aload_n S.1 S.2.1 dX1_become_44 rfl (lv_at hl 0 rfl) ?_
  refine b_get (v := .ref aPrices) S iX1 hK hP 0 rfl rfl 4 (by decide) (by decide +kernel) rfl dX1_become_45 ?_
  refine lv_iconst (v := (0)) S.1 S.2.1 dX1_become_48 (by decide) ?_
  refine lv_bipush (v := (6)) S.1 S.2.1 dX1_become_49 (by decide) ?_
  refine va_copyi (ty := .int) S.1 S.2.1 (S.2.2.1.trans hl.1.symm) S.2.2.2.1 (S.2.2.2.2 (.methodLink RX1 55 arraycopyName) (by decide +kernel)) (S.2.2.2.2 (.native arraycopyName) (by decide +kernel)) (S.2.2.2.2 (.static arraycopyName) (by decide +kernel)) (S.2.2.2.2 (.initialized "java/lang/System") (by decide +kernel)) hK.1 hP hD hS 12 2 0 0 rfl rfl rfl rfl rfl (by decide) (by decide) (by decide) (cpy_le (A := 0) (B := 6) rfl rfl (by omega) (by omega) (by omega)) (cpy_le (A := 0) (B := 6) rfl rfl (by omega) (by omega) (by omega)) (fun _ _ => rfl) (Nat.le_of_ble_eq_true rfl) (Nat.le_of_ble_eq_true rfl) dX1_become_51 (fun H locs hP hD hS => ?_)
  obtain ⟨f_2, hf_2⟩ : ∃ g, (va_cpy fpo fp (0 : Int32).toNatClampNeg (0 : Int32).toNatClampNeg (6 : Int32).toNatClampNeg) = g := ⟨_, rfl⟩
  have hP : va_P D vwCl [(ct, .inr (1, [.int ow_, .int oh, .int op, .ref aCells, .ref aPrices, .ref aFree, .ref aPlaces, .ref aHomes, .ref aManners, .ref aGone, .ref aPaid, .ref aBlinks])), (aCells, .inl (cI, 80, .inl f_1)), (aPrices, .inl (cI, 6, .inl (va_cpy fpo fp (0 : Int32).toNatClampNeg (0 : Int32).toNatClampNeg (6 : Int32).toNatClampNeg))), (aFree, .inl (cI, 6, .inl ff)), (aPlaces, .inl (cI, 6, .inl fl)), (aHomes, .inl (cI, 6, .inl fh)), (aManners, .inl (cI, 6, .inl fm)), (aGone, .inl (cI, 6, .inl fg)), (aPaid, .inl (cI, 36, .inl fd)), (aBlinks, .inl (cI, 36, .inl fb)), (ot, .inr (1, [.int ow_, .int oh, .int op, .ref oaCells, .ref oaPrices, .ref oaFree, .ref oaPlaces, .ref oaHomes, .ref oaManners, .ref oaGone, .ref oaPaid, .ref oaBlinks])), (oaCells, .inl (cI, 80, .inl fco)), (oaPrices, .inl (cI, 6, .inl fpo)), (oaFree, .inl (cI, 6, .inl ffo)), (oaPlaces, .inl (cI, 6, .inl flo)), (oaHomes, .inl (cI, 6, .inl fho)), (oaManners, .inl (cI, 6, .inl fmo)), (oaGone, .inl (cI, 6, .inl fgo)), (oaPaid, .inl (cI, 36, .inl fdo)), (oaBlinks, .inl (cI, 36, .inl fbo))] H := hP
  have hD : va_D A [(ct, .inr (1, [.int ow_, .int oh, .int op, .ref aCells, .ref aPrices, .ref aFree, .ref aPlaces, .ref aHomes, .ref aManners, .ref aGone, .ref aPaid, .ref aBlinks])), (aCells, .inl (cI, 80, .inl f_1)), (aPrices, .inl (cI, 6, .inl (va_cpy fpo fp (0 : Int32).toNatClampNeg (0 : Int32).toNatClampNeg (6 : Int32).toNatClampNeg))), (aFree, .inl (cI, 6, .inl ff)), (aPlaces, .inl (cI, 6, .inl fl)), (aHomes, .inl (cI, 6, .inl fh)), (aManners, .inl (cI, 6, .inl fm)), (aGone, .inl (cI, 6, .inl fg)), (aPaid, .inl (cI, 36, .inl fd)), (aBlinks, .inl (cI, 36, .inl fb)), (ot, .inr (1, [.int ow_, .int oh, .int op, .ref oaCells, .ref oaPrices, .ref oaFree, .ref oaPlaces, .ref oaHomes, .ref oaManners, .ref oaGone, .ref oaPaid, .ref oaBlinks])), (oaCells, .inl (cI, 80, .inl fco)), (oaPrices, .inl (cI, 6, .inl fpo)), (oaFree, .inl (cI, 6, .inl ffo)), (oaPlaces, .inl (cI, 6, .inl flo)), (oaHomes, .inl (cI, 6, .inl fho)), (oaManners, .inl (cI, 6, .inl fmo)), (oaGone, .inl (cI, 6, .inl fgo)), (oaPaid, .inl (cI, 36, .inl fdo)), (oaBlinks, .inl (cI, 36, .inl fbo))] := hD
  rw [hf_2] at hP hD
  refine lv_aload_n S.1 S.2.1 dX1_become_54 rfl (lv_at hl 1 rfl) ?_
  refine b_get (v := .ref oaFree) S iX1 hK hP 10 rfl rfl 5 (by decide) (by decide +kernel) rfl dX1_become_55 ?_
  refine lv_iconst (v := (0)) S.1 S.2.1 dX1_become_58 (by decide) ?_
  refine lv_aload_n S.1 S.2.1 dX1_become_59 rfl (lv_at hl 0 rfl) ?_
  refine b_get (v := .ref aFree) S iX1 hK hP 0 rfl rfl 5 (by decide) (by decide +kernel) rfl dX1_become_60 ?_
  refine lv_iconst (v := (0)) S.1 S.2.1 dX1_become_63 (by decide) ?_
  refine lv_bipush (v := (6)) S.1 S.2.1 dX1_become_64 (by decide) ?_
  refine va_copyi (ty := .int) S.1 S.2.1 (S.2.2.1.trans hl.1.symm) S.2.2.2.1 (S.2.2.2.2 (.methodLink RX1 55 arraycopyName) (by decide +kernel)) (S.2.2.2.2 (.native arraycopyName) (by decide +kernel)) (S.2.2.2.2 (.static arraycopyName) (by decide +kernel)) (S.2.2.2.2 (.initialized "java/lang/System") (by decide +kernel)) hK.1 hP hD hS 13 3 0 0 rfl rfl rfl rfl rfl (by decide) (by decide) (by decide) (cpy_le (A := 0) (B := 6) rfl rfl (by omega) (by omega) (by omega)) (cpy_le (A := 0) (B := 6) rfl rfl (by omega) (by omega) (by omega)) (fun _ _ => rfl) (Nat.le_of_ble_eq_true rfl) (Nat.le_of_ble_eq_true rfl) dX1_become_66 (fun H locs hP hD hS => ?_)
  obtain ⟨f_3, hf_3⟩ : ∃ g, (va_cpy ffo ff (0 : Int32).toNatClampNeg (0 : Int32).toNatClampNeg (6 : Int32).toNatClampNeg) = g := ⟨_, rfl⟩
  have hP : va_P D vwCl [(ct, .inr (1, [.int ow_, .int oh, .int op, .ref aCells, .ref aPrices, .ref aFree, .ref aPlaces, .ref aHomes, .ref aManners, .ref aGone, .ref aPaid, .ref aBlinks])), (aCells, .inl (cI, 80, .inl f_1)), (aPrices, .inl (cI, 6, .inl f_2)), (aFree, .inl (cI, 6, .inl (va_cpy ffo ff (0 : Int32).toNatClampNeg (0 : Int32).toNatClampNeg (6 : Int32).toNatClampNeg))), (aPlaces, .inl (cI, 6, .inl fl)), (aHomes, .inl (cI, 6, .inl fh)), (aManners, .inl (cI, 6, .inl fm)), (aGone, .inl (cI, 6, .inl fg)), (aPaid, .inl (cI, 36, .inl fd)), (aBlinks, .inl (cI, 36, .inl fb)), (ot, .inr (1, [.int ow_, .int oh, .int op, .ref oaCells, .ref oaPrices, .ref oaFree, .ref oaPlaces, .ref oaHomes, .ref oaManners, .ref oaGone, .ref oaPaid, .ref oaBlinks])), (oaCells, .inl (cI, 80, .inl fco)), (oaPrices, .inl (cI, 6, .inl fpo)), (oaFree, .inl (cI, 6, .inl ffo)), (oaPlaces, .inl (cI, 6, .inl flo)), (oaHomes, .inl (cI, 6, .inl fho)), (oaManners, .inl (cI, 6, .inl fmo)), (oaGone, .inl (cI, 6, .inl fgo)), (oaPaid, .inl (cI, 36, .inl fdo)), (oaBlinks, .inl (cI, 36, .inl fbo))] H := hP
  have hD : va_D A [(ct, .inr (1, [.int ow_, .int oh, .int op, .ref aCells, .ref aPrices, .ref aFree, .ref aPlaces, .ref aHomes, .ref aManners, .ref aGone, .ref aPaid, .ref aBlinks])), (aCells, .inl (cI, 80, .inl f_1)), (aPrices, .inl (cI, 6, .inl f_2)), (aFree, .inl (cI, 6, .inl (va_cpy ffo ff (0 : Int32).toNatClampNeg (0 : Int32).toNatClampNeg (6 : Int32).toNatClampNeg))), (aPlaces, .inl (cI, 6, .inl fl)), (aHomes, .inl (cI, 6, .inl fh)), (aManners, .inl (cI, 6, .inl fm)), (aGone, .inl (cI, 6, .inl fg)), (aPaid, .inl (cI, 36, .inl fd)), (aBlinks, .inl (cI, 36, .inl fb)), (ot, .inr (1, [.int ow_, .int oh, .int op, .ref oaCells, .ref oaPrices, .ref oaFree, .ref oaPlaces, .ref oaHomes, .ref oaManners, .ref oaGone, .ref oaPaid, .ref oaBlinks])), (oaCells, .inl (cI, 80, .inl fco)), (oaPrices, .inl (cI, 6, .inl fpo)), (oaFree, .inl (cI, 6, .inl ffo)), (oaPlaces, .inl (cI, 6, .inl flo)), (oaHomes, .inl (cI, 6, .inl fho)), (oaManners, .inl (cI, 6, .inl fmo)), (oaGone, .inl (cI, 6, .inl fgo)), (oaPaid, .inl (cI, 36, .inl fdo)), (oaBlinks, .inl (cI, 36, .inl fbo))] := hD
  rw [hf_3] at hP hD
  refine lv_aload_n S.1 S.2.1 dX1_become_69 rfl (lv_at hl 1 rfl) ?_
  refine b_get (v := .ref oaPlaces) S iX1 hK hP 10 rfl rfl 6 (by decide) (by decide +kernel) rfl dX1_become_70 ?_
  refine lv_iconst (v := (0)) S.1 S.2.1 dX1_become_73 (by decide) ?_
  refine lv_aload_n S.1 S.2.1 dX1_become_74 rfl (lv_at hl 0 rfl) ?_
  refine b_get (v := .ref aPlaces) S iX1 hK hP 0 rfl rfl 6 (by decide) (by decide +kernel) rfl dX1_become_75 ?_
  refine lv_iconst (v := (0)) S.1 S.2.1 dX1_become_78 (by decide) ?_
  refine lv_bipush (v := (6)) S.1 S.2.1 dX1_become_79 (by decide) ?_
  refine va_copyi (ty := .int) S.1 S.2.1 (S.2.2.1.trans hl.1.symm) S.2.2.2.1 (S.2.2.2.2 (.methodLink RX1 55 arraycopyName) (by decide +kernel)) (S.2.2.2.2 (.native arraycopyName) (by decide +kernel)) (S.2.2.2.2 (.static arraycopyName) (by decide +kernel)) (S.2.2.2.2 (.initialized "java/lang/System") (by decide +kernel)) hK.1 hP hD hS 14 4 0 0 rfl rfl rfl rfl rfl (by decide) (by decide) (by decide) (cpy_le (A := 0) (B := 6) rfl rfl (by omega) (by omega) (by omega)) (cpy_le (A := 0) (B := 6) rfl rfl (by omega) (by omega) (by omega)) (fun _ _ => rfl) (Nat.le_of_ble_eq_true rfl) (Nat.le_of_ble_eq_true rfl) dX1_become_81 (fun H locs hP hD hS => ?_)
  obtain ⟨f_4, hf_4, rf_4⟩ : ∃ g, (va_cpy flo fl (0 : Int32).toNatClampNeg (0 : Int32).toNatClampNeg (6 : Int32).toNatClampNeg) = g ∧ rng g 6 (0) (79) := ⟨_, rfl, rng_cpy (by assumption) (by assumption) (cpy_le (A := 0) (B := 6) rfl rfl (by omega) (by omega) (by omega))⟩
  have hP : va_P D vwCl [(ct, .inr (1, [.int ow_, .int oh, .int op, .ref aCells, .ref aPrices, .ref aFree, .ref aPlaces, .ref aHomes, .ref aManners, .ref aGone, .ref aPaid, .ref aBlinks])), (aCells, .inl (cI, 80, .inl f_1)), (aPrices, .inl (cI, 6, .inl f_2)), (aFree, .inl (cI, 6, .inl f_3)), (aPlaces, .inl (cI, 6, .inl (va_cpy flo fl (0 : Int32).toNatClampNeg (0 : Int32).toNatClampNeg (6 : Int32).toNatClampNeg))), (aHomes, .inl (cI, 6, .inl fh)), (aManners, .inl (cI, 6, .inl fm)), (aGone, .inl (cI, 6, .inl fg)), (aPaid, .inl (cI, 36, .inl fd)), (aBlinks, .inl (cI, 36, .inl fb)), (ot, .inr (1, [.int ow_, .int oh, .int op, .ref oaCells, .ref oaPrices, .ref oaFree, .ref oaPlaces, .ref oaHomes, .ref oaManners, .ref oaGone, .ref oaPaid, .ref oaBlinks])), (oaCells, .inl (cI, 80, .inl fco)), (oaPrices, .inl (cI, 6, .inl fpo)), (oaFree, .inl (cI, 6, .inl ffo)), (oaPlaces, .inl (cI, 6, .inl flo)), (oaHomes, .inl (cI, 6, .inl fho)), (oaManners, .inl (cI, 6, .inl fmo)), (oaGone, .inl (cI, 6, .inl fgo)), (oaPaid, .inl (cI, 36, .inl fdo)), (oaBlinks, .inl (cI, 36, .inl fbo))] H := hP
  have hD : va_D A [(ct, .inr (1, [.int ow_, .int oh, .int op, .ref aCells, .ref aPrices, .ref aFree, .ref aPlaces, .ref aHomes, .ref aManners, .ref aGone, .ref aPaid, .ref aBlinks])), (aCells, .inl (cI, 80, .inl f_1)), (aPrices, .inl (cI, 6, .inl f_2)), (aFree, .inl (cI, 6, .inl f_3)), (aPlaces, .inl (cI, 6, .inl (va_cpy flo fl (0 : Int32).toNatClampNeg (0 : Int32).toNatClampNeg (6 : Int32).toNatClampNeg))), (aHomes, .inl (cI, 6, .inl fh)), (aManners, .inl (cI, 6, .inl fm)), (aGone, .inl (cI, 6, .inl fg)), (aPaid, .inl (cI, 36, .inl fd)), (aBlinks, .inl (cI, 36, .inl fb)), (ot, .inr (1, [.int ow_, .int oh, .int op, .ref oaCells, .ref oaPrices, .ref oaFree, .ref oaPlaces, .ref oaHomes, .ref oaManners, .ref oaGone, .ref oaPaid, .ref oaBlinks])), (oaCells, .inl (cI, 80, .inl fco)), (oaPrices, .inl (cI, 6, .inl fpo)), (oaFree, .inl (cI, 6, .inl ffo)), (oaPlaces, .inl (cI, 6, .inl flo)), (oaHomes, .inl (cI, 6, .inl fho)), (oaManners, .inl (cI, 6, .inl fmo)), (oaGone, .inl (cI, 6, .inl fgo)), (oaPaid, .inl (cI, 36, .inl fdo)), (oaBlinks, .inl (cI, 36, .inl fbo))] := hD
  rw [hf_4] at hP hD
  refine lv_aload_n S.1 S.2.1 dX1_become_84 rfl (lv_at hl 1 rfl) ?_
  refine b_get (v := .ref oaHomes) S iX1 hK hP 10 rfl rfl 7 (by decide) (by decide +kernel) rfl dX1_become_85 ?_
  refine lv_iconst (v := (0)) S.1 S.2.1 dX1_become_88 (by decide) ?_
  refine lv_aload_n S.1 S.2.1 dX1_become_89 rfl (lv_at hl 0 rfl) ?_
  refine b_get (v := .ref aHomes) S iX1 hK hP 0 rfl rfl 7 (by decide) (by decide +kernel) rfl dX1_become_90 ?_
  refine lv_iconst (v := (0)) S.1 S.2.1 dX1_become_93 (by decide) ?_
  refine lv_bipush (v := (6)) S.1 S.2.1 dX1_become_94 (by decide) ?_
  refine va_copyi (ty := .int) S.1 S.2.1 (S.2.2.1.trans hl.1.symm) S.2.2.2.1 (S.2.2.2.2 (.methodLink RX1 55 arraycopyName) (by decide +kernel)) (S.2.2.2.2 (.native arraycopyName) (by decide +kernel)) (S.2.2.2.2 (.static arraycopyName) (by decide +kernel)) (S.2.2.2.2 (.initialized "java/lang/System") (by decide +kernel)) hK.1 hP hD hS 15 5 0 0 rfl rfl rfl rfl rfl (by decide) (by decide) (by decide) (cpy_le (A := 0) (B := 6) rfl rfl (by omega) (by omega) (by omega)) (cpy_le (A := 0) (B := 6) rfl rfl (by omega) (by omega) (by omega)) (fun _ _ => rfl) (Nat.le_of_ble_eq_true rfl) (Nat.le_of_ble_eq_true rfl) dX1_become_96 (fun H locs hP hD hS => ?_)
  obtain ⟨f_5, hf_5, rf_5⟩ : ∃ g, (va_cpy fho fh (0 : Int32).toNatClampNeg (0 : Int32).toNatClampNeg (6 : Int32).toNatClampNeg) = g ∧ rng g 6 (0) (79) := ⟨_, rfl, rng_cpy (by assumption) (by assumption) (cpy_le (A := 0) (B := 6) rfl rfl (by omega) (by omega) (by omega))⟩
  have hP : va_P D vwCl [(ct, .inr (1, [.int ow_, .int oh, .int op, .ref aCells, .ref aPrices, .ref aFree, .ref aPlaces, .ref aHomes, .ref aManners, .ref aGone, .ref aPaid, .ref aBlinks])), (aCells, .inl (cI, 80, .inl f_1)), (aPrices, .inl (cI, 6, .inl f_2)), (aFree, .inl (cI, 6, .inl f_3)), (aPlaces, .inl (cI, 6, .inl f_4)), (aHomes, .inl (cI, 6, .inl (va_cpy fho fh (0 : Int32).toNatClampNeg (0 : Int32).toNatClampNeg (6 : Int32).toNatClampNeg))), (aManners, .inl (cI, 6, .inl fm)), (aGone, .inl (cI, 6, .inl fg)), (aPaid, .inl (cI, 36, .inl fd)), (aBlinks, .inl (cI, 36, .inl fb)), (ot, .inr (1, [.int ow_, .int oh, .int op, .ref oaCells, .ref oaPrices, .ref oaFree, .ref oaPlaces, .ref oaHomes, .ref oaManners, .ref oaGone, .ref oaPaid, .ref oaBlinks])), (oaCells, .inl (cI, 80, .inl fco)), (oaPrices, .inl (cI, 6, .inl fpo)), (oaFree, .inl (cI, 6, .inl ffo)), (oaPlaces, .inl (cI, 6, .inl flo)), (oaHomes, .inl (cI, 6, .inl fho)), (oaManners, .inl (cI, 6, .inl fmo)), (oaGone, .inl (cI, 6, .inl fgo)), (oaPaid, .inl (cI, 36, .inl fdo)), (oaBlinks, .inl (cI, 36, .inl fbo))] H := hP
  have hD : va_D A [(ct, .inr (1, [.int ow_, .int oh, .int op, .ref aCells, .ref aPrices, .ref aFree, .ref aPlaces, .ref aHomes, .ref aManners, .ref aGone, .ref aPaid, .ref aBlinks])), (aCells, .inl (cI, 80, .inl f_1)), (aPrices, .inl (cI, 6, .inl f_2)), (aFree, .inl (cI, 6, .inl f_3)), (aPlaces, .inl (cI, 6, .inl f_4)), (aHomes, .inl (cI, 6, .inl (va_cpy fho fh (0 : Int32).toNatClampNeg (0 : Int32).toNatClampNeg (6 : Int32).toNatClampNeg))), (aManners, .inl (cI, 6, .inl fm)), (aGone, .inl (cI, 6, .inl fg)), (aPaid, .inl (cI, 36, .inl fd)), (aBlinks, .inl (cI, 36, .inl fb)), (ot, .inr (1, [.int ow_, .int oh, .int op, .ref oaCells, .ref oaPrices, .ref oaFree, .ref oaPlaces, .ref oaHomes, .ref oaManners, .ref oaGone, .ref oaPaid, .ref oaBlinks])), (oaCells, .inl (cI, 80, .inl fco)), (oaPrices, .inl (cI, 6, .inl fpo)), (oaFree, .inl (cI, 6, .inl ffo)), (oaPlaces, .inl (cI, 6, .inl flo)), (oaHomes, .inl (cI, 6, .inl fho)), (oaManners, .inl (cI, 6, .inl fmo)), (oaGone, .inl (cI, 6, .inl fgo)), (oaPaid, .inl (cI, 36, .inl fdo)), (oaBlinks, .inl (cI, 36, .inl fbo))] := hD
  rw [hf_5] at hP hD
  refine lv_aload_n S.1 S.2.1 dX1_become_99 rfl (lv_at hl 1 rfl) ?_
  refine b_get (v := .ref oaManners) S iX1 hK hP 10 rfl rfl 8 (by decide) (by decide +kernel) rfl dX1_become_100 ?_
  refine lv_iconst (v := (0)) S.1 S.2.1 dX1_become_103 (by decide) ?_
  refine lv_aload_n S.1 S.2.1 dX1_become_104 rfl (lv_at hl 0 rfl) ?_
  refine b_get (v := .ref aManners) S iX1 hK hP 0 rfl rfl 8 (by decide) (by decide +kernel) rfl dX1_become_105 ?_
  refine lv_iconst (v := (0)) S.1 S.2.1 dX1_become_108 (by decide) ?_
  refine lv_bipush (v := (6)) S.1 S.2.1 dX1_become_109 (by decide) ?_
  refine va_copyi (ty := .int) S.1 S.2.1 (S.2.2.1.trans hl.1.symm) S.2.2.2.1 (S.2.2.2.2 (.methodLink RX1 55 arraycopyName) (by decide +kernel)) (S.2.2.2.2 (.native arraycopyName) (by decide +kernel)) (S.2.2.2.2 (.static arraycopyName) (by decide +kernel)) (S.2.2.2.2 (.initialized "java/lang/System") (by decide +kernel)) hK.1 hP hD hS 16 6 0 0 rfl rfl rfl rfl rfl (by decide) (by decide) (by decide) (cpy_le (A := 0) (B := 6) rfl rfl (by omega) (by omega) (by omega)) (cpy_le (A := 0) (B := 6) rfl rfl (by omega) (by omega) (by omega)) (fun _ _ => rfl) (Nat.le_of_ble_eq_true rfl) (Nat.le_of_ble_eq_true rfl) dX1_become_111 (fun H locs hP hD hS => ?_)
  obtain ⟨f_6, hf_6⟩ : ∃ g, (va_cpy fmo fm (0 : Int32).toNatClampNeg (0 : Int32).toNatClampNeg (6 : Int32).toNatClampNeg) = g := ⟨_, rfl⟩
  have hP : va_P D vwCl [(ct, .inr (1, [.int ow_, .int oh, .int op, .ref aCells, .ref aPrices, .ref aFree, .ref aPlaces, .ref aHomes, .ref aManners, .ref aGone, .ref aPaid, .ref aBlinks])), (aCells, .inl (cI, 80, .inl f_1)), (aPrices, .inl (cI, 6, .inl f_2)), (aFree, .inl (cI, 6, .inl f_3)), (aPlaces, .inl (cI, 6, .inl f_4)), (aHomes, .inl (cI, 6, .inl f_5)), (aManners, .inl (cI, 6, .inl (va_cpy fmo fm (0 : Int32).toNatClampNeg (0 : Int32).toNatClampNeg (6 : Int32).toNatClampNeg))), (aGone, .inl (cI, 6, .inl fg)), (aPaid, .inl (cI, 36, .inl fd)), (aBlinks, .inl (cI, 36, .inl fb)), (ot, .inr (1, [.int ow_, .int oh, .int op, .ref oaCells, .ref oaPrices, .ref oaFree, .ref oaPlaces, .ref oaHomes, .ref oaManners, .ref oaGone, .ref oaPaid, .ref oaBlinks])), (oaCells, .inl (cI, 80, .inl fco)), (oaPrices, .inl (cI, 6, .inl fpo)), (oaFree, .inl (cI, 6, .inl ffo)), (oaPlaces, .inl (cI, 6, .inl flo)), (oaHomes, .inl (cI, 6, .inl fho)), (oaManners, .inl (cI, 6, .inl fmo)), (oaGone, .inl (cI, 6, .inl fgo)), (oaPaid, .inl (cI, 36, .inl fdo)), (oaBlinks, .inl (cI, 36, .inl fbo))] H := hP
  have hD : va_D A [(ct, .inr (1, [.int ow_, .int oh, .int op, .ref aCells, .ref aPrices, .ref aFree, .ref aPlaces, .ref aHomes, .ref aManners, .ref aGone, .ref aPaid, .ref aBlinks])), (aCells, .inl (cI, 80, .inl f_1)), (aPrices, .inl (cI, 6, .inl f_2)), (aFree, .inl (cI, 6, .inl f_3)), (aPlaces, .inl (cI, 6, .inl f_4)), (aHomes, .inl (cI, 6, .inl f_5)), (aManners, .inl (cI, 6, .inl (va_cpy fmo fm (0 : Int32).toNatClampNeg (0 : Int32).toNatClampNeg (6 : Int32).toNatClampNeg))), (aGone, .inl (cI, 6, .inl fg)), (aPaid, .inl (cI, 36, .inl fd)), (aBlinks, .inl (cI, 36, .inl fb)), (ot, .inr (1, [.int ow_, .int oh, .int op, .ref oaCells, .ref oaPrices, .ref oaFree, .ref oaPlaces, .ref oaHomes, .ref oaManners, .ref oaGone, .ref oaPaid, .ref oaBlinks])), (oaCells, .inl (cI, 80, .inl fco)), (oaPrices, .inl (cI, 6, .inl fpo)), (oaFree, .inl (cI, 6, .inl ffo)), (oaPlaces, .inl (cI, 6, .inl flo)), (oaHomes, .inl (cI, 6, .inl fho)), (oaManners, .inl (cI, 6, .inl fmo)), (oaGone, .inl (cI, 6, .inl fgo)), (oaPaid, .inl (cI, 36, .inl fdo)), (oaBlinks, .inl (cI, 36, .inl fbo))] := hD
  rw [hf_6] at hP hD
  refine lv_aload_n S.1 S.2.1 dX1_become_114 rfl (lv_at hl 1 rfl) ?_
  refine b_get (v := .ref oaGone) S iX1 hK hP 10 rfl rfl 9 (by decide) (by decide +kernel) rfl dX1_become_115 ?_
  refine lv_iconst (v := (0)) S.1 S.2.1 dX1_become_118 (by decide) ?_
  refine lv_aload_n S.1 S.2.1 dX1_become_119 rfl (lv_at hl 0 rfl) ?_
  refine b_get (v := .ref aGone) S iX1 hK hP 0 rfl rfl 9 (by decide) (by decide +kernel) rfl dX1_become_120 ?_
  refine lv_iconst (v := (0)) S.1 S.2.1 dX1_become_123 (by decide) ?_
  refine lv_bipush (v := (6)) S.1 S.2.1 dX1_become_124 (by decide) ?_
  refine va_copyi (ty := .int) S.1 S.2.1 (S.2.2.1.trans hl.1.symm) S.2.2.2.1 (S.2.2.2.2 (.methodLink RX1 55 arraycopyName) (by decide +kernel)) (S.2.2.2.2 (.native arraycopyName) (by decide +kernel)) (S.2.2.2.2 (.static arraycopyName) (by decide +kernel)) (S.2.2.2.2 (.initialized "java/lang/System") (by decide +kernel)) hK.1 hP hD hS 17 7 0 0 rfl rfl rfl rfl rfl (by decide) (by decide) (by decide) (cpy_le (A := 0) (B := 6) rfl rfl (by omega) (by omega) (by omega)) (cpy_le (A := 0) (B := 6) rfl rfl (by omega) (by omega) (by omega)) (fun _ _ => rfl) (Nat.le_of_ble_eq_true rfl) (Nat.le_of_ble_eq_true rfl) dX1_become_126 (fun H locs hP hD hS => ?_)
  obtain ⟨f_7, hf_7⟩ : ∃ g, (va_cpy fgo fg (0 : Int32).toNatClampNeg (0 : Int32).toNatClampNeg (6 : Int32).toNatClampNeg) = g := ⟨_, rfl⟩
  have hP : va_P D vwCl [(ct, .inr (1, [.int ow_, .int oh, .int op, .ref aCells, .ref aPrices, .ref aFree, .ref aPlaces, .ref aHomes, .ref aManners, .ref aGone, .ref aPaid, .ref aBlinks])), (aCells, .inl (cI, 80, .inl f_1)), (aPrices, .inl (cI, 6, .inl f_2)), (aFree, .inl (cI, 6, .inl f_3)), (aPlaces, .inl (cI, 6, .inl f_4)), (aHomes, .inl (cI, 6, .inl f_5)), (aManners, .inl (cI, 6, .inl f_6)), (aGone, .inl (cI, 6, .inl (va_cpy fgo fg (0 : Int32).toNatClampNeg (0 : Int32).toNatClampNeg (6 : Int32).toNatClampNeg))), (aPaid, .inl (cI, 36, .inl fd)), (aBlinks, .inl (cI, 36, .inl fb)), (ot, .inr (1, [.int ow_, .int oh, .int op, .ref oaCells, .ref oaPrices, .ref oaFree, .ref oaPlaces, .ref oaHomes, .ref oaManners, .ref oaGone, .ref oaPaid, .ref oaBlinks])), (oaCells, .inl (cI, 80, .inl fco)), (oaPrices, .inl (cI, 6, .inl fpo)), (oaFree, .inl (cI, 6, .inl ffo)), (oaPlaces, .inl (cI, 6, .inl flo)), (oaHomes, .inl (cI, 6, .inl fho)), (oaManners, .inl (cI, 6, .inl fmo)), (oaGone, .inl (cI, 6, .inl fgo)), (oaPaid, .inl (cI, 36, .inl fdo)), (oaBlinks, .inl (cI, 36, .inl fbo))] H := hP
  have hD : va_D A [(ct, .inr (1, [.int ow_, .int oh, .int op, .ref aCells, .ref aPrices, .ref aFree, .ref aPlaces, .ref aHomes, .ref aManners, .ref aGone, .ref aPaid, .ref aBlinks])), (aCells, .inl (cI, 80, .inl f_1)), (aPrices, .inl (cI, 6, .inl f_2)), (aFree, .inl (cI, 6, .inl f_3)), (aPlaces, .inl (cI, 6, .inl f_4)), (aHomes, .inl (cI, 6, .inl f_5)), (aManners, .inl (cI, 6, .inl f_6)), (aGone, .inl (cI, 6, .inl (va_cpy fgo fg (0 : Int32).toNatClampNeg (0 : Int32).toNatClampNeg (6 : Int32).toNatClampNeg))), (aPaid, .inl (cI, 36, .inl fd)), (aBlinks, .inl (cI, 36, .inl fb)), (ot, .inr (1, [.int ow_, .int oh, .int op, .ref oaCells, .ref oaPrices, .ref oaFree, .ref oaPlaces, .ref oaHomes, .ref oaManners, .ref oaGone, .ref oaPaid, .ref oaBlinks])), (oaCells, .inl (cI, 80, .inl fco)), (oaPrices, .inl (cI, 6, .inl fpo)), (oaFree, .inl (cI, 6, .inl ffo)), (oaPlaces, .inl (cI, 6, .inl flo)), (oaHomes, .inl (cI, 6, .inl fho)), (oaManners, .inl (cI, 6, .inl fmo)), (oaGone, .inl (cI, 6, .inl fgo)), (oaPaid, .inl (cI, 36, .inl fdo)), (oaBlinks, .inl (cI, 36, .inl fbo))] := hD
  rw [hf_7] at hP hD
  refine lv_aload_n S.1 S.2.1 dX1_become_129 rfl (lv_at hl 1 rfl) ?_
  refine b_get (v := .ref oaPaid) S iX1 hK hP 10 rfl rfl 10 (by decide) (by decide +kernel) rfl dX1_become_130 ?_
  refine lv_iconst (v := (0)) S.1 S.2.1 dX1_become_133 (by decide) ?_
  refine lv_aload_n S.1 S.2.1 dX1_become_134 rfl (lv_at hl 0 rfl) ?_
  refine b_get (v := .ref aPaid) S iX1 hK hP 0 rfl rfl 10 (by decide) (by decide +kernel) rfl dX1_become_135 ?_
  refine lv_iconst (v := (0)) S.1 S.2.1 dX1_become_138 (by decide) ?_
  refine lv_bipush (v := (36)) S.1 S.2.1 dX1_become_139 (by decide) ?_
  refine va_copyi (ty := .int) S.1 S.2.1 (S.2.2.1.trans hl.1.symm) S.2.2.2.1 (S.2.2.2.2 (.methodLink RX1 55 arraycopyName) (by decide +kernel)) (S.2.2.2.2 (.native arraycopyName) (by decide +kernel)) (S.2.2.2.2 (.static arraycopyName) (by decide +kernel)) (S.2.2.2.2 (.initialized "java/lang/System") (by decide +kernel)) hK.1 hP hD hS 18 8 0 0 rfl rfl rfl rfl rfl (by decide) (by decide) (by decide) (cpy_le (A := 0) (B := 36) rfl rfl (by omega) (by omega) (by omega)) (cpy_le (A := 0) (B := 36) rfl rfl (by omega) (by omega) (by omega)) (fun _ _ => rfl) (Nat.le_of_ble_eq_true rfl) (Nat.le_of_ble_eq_true rfl) dX1_become_141 (fun H locs hP hD hS => ?_)
  obtain ⟨f_8, hf_8⟩ : ∃ g, (va_cpy fdo fd (0 : Int32).toNatClampNeg (0 : Int32).toNatClampNeg (36 : Int32).toNatClampNeg) = g := ⟨_, rfl⟩
  have hP : va_P D vwCl [(ct, .inr (1, [.int ow_, .int oh, .int op, .ref aCells, .ref aPrices, .ref aFree, .ref aPlaces, .ref aHomes, .ref aManners, .ref aGone, .ref aPaid, .ref aBlinks])), (aCells, .inl (cI, 80, .inl f_1)), (aPrices, .inl (cI, 6, .inl f_2)), (aFree, .inl (cI, 6, .inl f_3)), (aPlaces, .inl (cI, 6, .inl f_4)), (aHomes, .inl (cI, 6, .inl f_5)), (aManners, .inl (cI, 6, .inl f_6)), (aGone, .inl (cI, 6, .inl f_7)), (aPaid, .inl (cI, 36, .inl (va_cpy fdo fd (0 : Int32).toNatClampNeg (0 : Int32).toNatClampNeg (36 : Int32).toNatClampNeg))), (aBlinks, .inl (cI, 36, .inl fb)), (ot, .inr (1, [.int ow_, .int oh, .int op, .ref oaCells, .ref oaPrices, .ref oaFree, .ref oaPlaces, .ref oaHomes, .ref oaManners, .ref oaGone, .ref oaPaid, .ref oaBlinks])), (oaCells, .inl (cI, 80, .inl fco)), (oaPrices, .inl (cI, 6, .inl fpo)), (oaFree, .inl (cI, 6, .inl ffo)), (oaPlaces, .inl (cI, 6, .inl flo)), (oaHomes, .inl (cI, 6, .inl fho)), (oaManners, .inl (cI, 6, .inl fmo)), (oaGone, .inl (cI, 6, .inl fgo)), (oaPaid, .inl (cI, 36, .inl fdo)), (oaBlinks, .inl (cI, 36, .inl fbo))] H := hP
  have hD : va_D A [(ct, .inr (1, [.int ow_, .int oh, .int op, .ref aCells, .ref aPrices, .ref aFree, .ref aPlaces, .ref aHomes, .ref aManners, .ref aGone, .ref aPaid, .ref aBlinks])), (aCells, .inl (cI, 80, .inl f_1)), (aPrices, .inl (cI, 6, .inl f_2)), (aFree, .inl (cI, 6, .inl f_3)), (aPlaces, .inl (cI, 6, .inl f_4)), (aHomes, .inl (cI, 6, .inl f_5)), (aManners, .inl (cI, 6, .inl f_6)), (aGone, .inl (cI, 6, .inl f_7)), (aPaid, .inl (cI, 36, .inl (va_cpy fdo fd (0 : Int32).toNatClampNeg (0 : Int32).toNatClampNeg (36 : Int32).toNatClampNeg))), (aBlinks, .inl (cI, 36, .inl fb)), (ot, .inr (1, [.int ow_, .int oh, .int op, .ref oaCells, .ref oaPrices, .ref oaFree, .ref oaPlaces, .ref oaHomes, .ref oaManners, .ref oaGone, .ref oaPaid, .ref oaBlinks])), (oaCells, .inl (cI, 80, .inl fco)), (oaPrices, .inl (cI, 6, .inl fpo)), (oaFree, .inl (cI, 6, .inl ffo)), (oaPlaces, .inl (cI, 6, .inl flo)), (oaHomes, .inl (cI, 6, .inl fho)), (oaManners, .inl (cI, 6, .inl fmo)), (oaGone, .inl (cI, 6, .inl fgo)), (oaPaid, .inl (cI, 36, .inl fdo)), (oaBlinks, .inl (cI, 36, .inl fbo))] := hD
  rw [hf_8] at hP hD
  refine lv_aload_n S.1 S.2.1 dX1_become_144 rfl (lv_at hl 1 rfl) ?_
  refine b_get (v := .ref oaBlinks) S iX1 hK hP 10 rfl rfl 11 (by decide) (by decide +kernel) rfl dX1_become_145 ?_
  refine lv_iconst (v := (0)) S.1 S.2.1 dX1_become_148 (by decide) ?_
  refine lv_aload_n S.1 S.2.1 dX1_become_149 rfl (lv_at hl 0 rfl) ?_
  refine b_get (v := .ref aBlinks) S iX1 hK hP 0 rfl rfl 11 (by decide) (by decide +kernel) rfl dX1_become_150 ?_
  refine lv_iconst (v := (0)) S.1 S.2.1 dX1_become_153 (by decide) ?_
  refine lv_bipush (v := (36)) S.1 S.2.1 dX1_become_154 (by decide) ?_
  refine va_copyi (ty := .int) S.1 S.2.1 (S.2.2.1.trans hl.1.symm) S.2.2.2.1 (S.2.2.2.2 (.methodLink RX1 55 arraycopyName) (by decide +kernel)) (S.2.2.2.2 (.native arraycopyName) (by decide +kernel)) (S.2.2.2.2 (.static arraycopyName) (by decide +kernel)) (S.2.2.2.2 (.initialized "java/lang/System") (by decide +kernel)) hK.1 hP hD hS 19 9 0 0 rfl rfl rfl rfl rfl (by decide) (by decide) (by decide) (cpy_le (A := 0) (B := 36) rfl rfl (by omega) (by omega) (by omega)) (cpy_le (A := 0) (B := 36) rfl rfl (by omega) (by omega) (by omega)) (fun _ _ => rfl) (Nat.le_of_ble_eq_true rfl) (Nat.le_of_ble_eq_true rfl) dX1_become_156 (fun H locs hP hD hS => ?_)
  obtain ⟨f_9, hf_9⟩ : ∃ g, (va_cpy fbo fb (0 : Int32).toNatClampNeg (0 : Int32).toNatClampNeg (36 : Int32).toNatClampNeg) = g := ⟨_, rfl⟩
  have hP : va_P D vwCl [(ct, .inr (1, [.int ow_, .int oh, .int op, .ref aCells, .ref aPrices, .ref aFree, .ref aPlaces, .ref aHomes, .ref aManners, .ref aGone, .ref aPaid, .ref aBlinks])), (aCells, .inl (cI, 80, .inl f_1)), (aPrices, .inl (cI, 6, .inl f_2)), (aFree, .inl (cI, 6, .inl f_3)), (aPlaces, .inl (cI, 6, .inl f_4)), (aHomes, .inl (cI, 6, .inl f_5)), (aManners, .inl (cI, 6, .inl f_6)), (aGone, .inl (cI, 6, .inl f_7)), (aPaid, .inl (cI, 36, .inl f_8)), (aBlinks, .inl (cI, 36, .inl (va_cpy fbo fb (0 : Int32).toNatClampNeg (0 : Int32).toNatClampNeg (36 : Int32).toNatClampNeg))), (ot, .inr (1, [.int ow_, .int oh, .int op, .ref oaCells, .ref oaPrices, .ref oaFree, .ref oaPlaces, .ref oaHomes, .ref oaManners, .ref oaGone, .ref oaPaid, .ref oaBlinks])), (oaCells, .inl (cI, 80, .inl fco)), (oaPrices, .inl (cI, 6, .inl fpo)), (oaFree, .inl (cI, 6, .inl ffo)), (oaPlaces, .inl (cI, 6, .inl flo)), (oaHomes, .inl (cI, 6, .inl fho)), (oaManners, .inl (cI, 6, .inl fmo)), (oaGone, .inl (cI, 6, .inl fgo)), (oaPaid, .inl (cI, 36, .inl fdo)), (oaBlinks, .inl (cI, 36, .inl fbo))] H := hP
  have hD : va_D A [(ct, .inr (1, [.int ow_, .int oh, .int op, .ref aCells, .ref aPrices, .ref aFree, .ref aPlaces, .ref aHomes, .ref aManners, .ref aGone, .ref aPaid, .ref aBlinks])), (aCells, .inl (cI, 80, .inl f_1)), (aPrices, .inl (cI, 6, .inl f_2)), (aFree, .inl (cI, 6, .inl f_3)), (aPlaces, .inl (cI, 6, .inl f_4)), (aHomes, .inl (cI, 6, .inl f_5)), (aManners, .inl (cI, 6, .inl f_6)), (aGone, .inl (cI, 6, .inl f_7)), (aPaid, .inl (cI, 36, .inl f_8)), (aBlinks, .inl (cI, 36, .inl (va_cpy fbo fb (0 : Int32).toNatClampNeg (0 : Int32).toNatClampNeg (36 : Int32).toNatClampNeg))), (ot, .inr (1, [.int ow_, .int oh, .int op, .ref oaCells, .ref oaPrices, .ref oaFree, .ref oaPlaces, .ref oaHomes, .ref oaManners, .ref oaGone, .ref oaPaid, .ref oaBlinks])), (oaCells, .inl (cI, 80, .inl fco)), (oaPrices, .inl (cI, 6, .inl fpo)), (oaFree, .inl (cI, 6, .inl ffo)), (oaPlaces, .inl (cI, 6, .inl flo)), (oaHomes, .inl (cI, 6, .inl fho)), (oaManners, .inl (cI, 6, .inl fmo)), (oaGone, .inl (cI, 6, .inl fgo)), (oaPaid, .inl (cI, 36, .inl fdo)), (oaBlinks, .inl (cI, 36, .inl fbo))] := hD
  rw [hf_9] at hP hD
  exact b_vret S.1 S.2.1 X.2.1 X.2.2.1 hP hD hS ⟨f_1, f_2, f_3, f_4, f_5, f_6, f_7, f_8, f_9, (by first | assumption | omega | decide | (rw [show Int32.toInt 0 = 0 from rfl]; omega)), (by first | assumption | omega | decide | (rw [show Int32.toInt 0 = 0 from rfl]; omega)), (by first | assumption | omega | decide | (rw [show Int32.toInt 0 = 0 from rfl]; omega)), (agr_cpy (by assumption) rfl), (agr_cpy (by assumption) rfl), (agr_cpy (by assumption) rfl), (agr_cpy (by assumption) rfl), (agr_cpy (by assumption) rfl), (agr_cpy (by assumption) rfl), (agr_cpy (by assumption) rfl), (agr_cpy (by assumption) rfl), (agr_cpy (by assumption) rfl), rfl⟩ dX1_become_159
theorem GC_ag {g : Nat → Int} {cw ch : Int} {fc fc2 : Nat → Int32} (h : GC g cw ch fc) (a : agr 80 fc2 fc) : GC g cw ch fc2 := ⟨h.1, h.2.1, fun c hc hi => by rw [a c hc]; exact h.2.2 c hc hi⟩
set_option maxHeartbeats 4000000 in
set_option maxRecDepth 100000 in
theorem s_X6_times (l : Launch) (D : va_G) (cI cZ cC cS : ClassId) (sq : Nat → Nat) (sz : Nat) (vw : Nat) (vM : Nat) (v : Int32) (vN : Nat) (vS : Nat) (vF : Nat) (vm : Nat → Int32) (hrg_vm : rng vm 640 (0) (2)) (hv : 0 ≤ v.toInt ∧ v.toInt < 640) : mI l yX6_times wsX6_times 0 0 D (tyW cI cZ cC cS) sq [(vw, .inr (6, [.ref vN, .ref vS, .ref vM, .ref vF])), (vM, .inl (cI, 640, .inl vm))] sz [.ref vw, .int v] (fun r w => ((1 ≤ r.toInt ∧ r.toInt ≤ 3) ∧ (r.toInt = 1 + (vm v.toNatClampNeg).toInt) ∧ w = [(vw, .inr (6, [.ref vN, .ref vS, .ref vM, .ref vF])), (vM, .inl (cI, 640, .inl vm))])) := by
  refine b_metI (cc := cX6_times) (maxL := 2) (ret := (some .int)) (by decide) rfl (Nat.le_of_ble_eq_true rfl) ?_
  intro p e s m below meth c ls A H X hsz hP hK hT hD hA hS hl
  have S : CallFix p m c cX6_times 2 s ([.ref vw, .int v] : List Value).toArray wsX6_times RX6 := X.1
  have hl : lv_has ls 2 [(0, .ref vw), (1, .int v)] := hl
  have iX6 := jX6_times_X6
  refine lv_iconst (v := (1)) S.1 S.2.1 dX6_times_0 (by decide) ?_
  refine lv_aload_n S.1 S.2.1 dX6_times_1 rfl (lv_at hl 0 rfl) ?_
  refine b_get (v := .ref vM) S iX6 hK hP 0 rfl rfl 2 (by decide) (by decide +kernel) rfl dX6_times_2 ?_
  refine lv_iload_n S.1 S.2.1 dX6_times_5 rfl (lv_at hl 1 rfl) ?_
  have hin_1 : vp_in v 640 := (in_of (n := 640) (by omega) (by omega))
  refine va_iald S.1 S.2.1 hK.1 hP 1 0 rfl rfl hin_1 dX6_times_6 ?_
  refine lv_topi (fun x_2 ex_2 => ?_)
  have tx_2 := rng_get (x := x_2) (show rng vm 640 (0) (2) by assumption) hin_1 ex_2
  have bx_2 : x_2.toInt = (vm v.toNatClampNeg).toInt := by rw [ex_2]
  refine lv_iadd S.1 S.2.1 dX6_times_7 ?_
  refine lv_topi (fun x_3 ex_3 => ?_)
  have tx_3 : x_3.toInt = 1 + (x_2.toInt) := addI (A := 1) (B := x_2.toInt) ex_3 rfl rfl (by omega) (by omega)
  exact b_iret S.1 S.2.1 X.2.1 X.2.2.1 hP hD hS ⟨(by first | assumption | omega | decide | (rw [show Int32.toInt 0 = 0 from rfl]; omega)), (by first | assumption | omega | decide | (rw [show Int32.toInt 0 = 0 from rfl]; omega)), rfl⟩ dX6_times_8
set_option maxHeartbeats 4000000 in
set_option maxRecDepth 100000 in
theorem s_X6_settle (l : Launch) (D : va_G) (cI cZ cC cS : ClassId) (sq : Nat → Nat) (sz : Nat) (vw : Nat) (vS : Nat) (vM : Nat) (vF : Nat) (ct : Nat) (aCells : Nat) (v : Int32) (k : Int32) (mt : Int32) (vN : Nat) (vs : Nat → Int32) (vm : Nat → Int32) (vf : Nat → Int32) (cw : Int32) (ch : Int32) (cp : Int32) (aPrices : Nat) (aFree : Nat) (aPlaces : Nat) (aHomes : Nat) (aManners : Nat) (aGone : Nat) (aPaid : Nat) (aBlinks : Nat) (fc : Nat → Int32) (gg : Nat → Int) (hrg_vs : rng vs 640 (-1) (79)) (hrg_vm : rng vm 640 (0) (2)) (hrg_vf : rng vf 640 (0) (6)) (hrg_fc : rng fc 80 (-1) (8)) (hw : 0 ≤ cw.toInt ∧ cw.toInt ≤ 10) (hh : 0 ≤ ch.toInt ∧ ch.toInt ≤ 8) (hv : 0 ≤ v.toInt ∧ v.toInt < 640) (hk : -1 ≤ k.toInt ∧ k.toInt < 80) (hm_ : 0 ≤ mt.toInt ∧ mt.toInt ≤ 2) (hgc : GC gg cw.toInt ch.toInt fc) (hgb : gB gg) (hki : k.toInt = -1 ∨ insK gg k.toInt) : mV l yX6_settle wsX6_settle 2 80 0 0 D (tyW cI cZ cC cS) sq [(vw, .inr (6, [.ref vN, .ref vS, .ref vM, .ref vF])), (vS, .inl (cI, 640, .inl vs)), (vM, .inl (cI, 640, .inl vm)), (vF, .inl (cI, 640, .inl vf)), (ct, .inr (1, [.int cw, .int ch, .int cp, .ref aCells, .ref aPrices, .ref aFree, .ref aPlaces, .ref aHomes, .ref aManners, .ref aGone, .ref aPaid, .ref aBlinks])), (aCells, .inl (cI, 80, .inl fc))] sz [.ref vw, .ref ct, .int v, .int k, .int mt] (fun w => (∃ (vs2 : Nat → Int32), ∃ (vm2 : Nat → Int32), ∃ (vf2 : Nat → Int32), (rng vs2 640 (-1) (79)) ∧ (rng vm2 640 (0) (2)) ∧ (rng vf2 640 (0) (6)) ∧ (vs2 = upd vs v.toNatClampNeg k) ∧ (vm2 = upd vm v.toNatClampNeg mt) ∧ (∃ o : Int32, o.toInt = ownG gg k.toInt ∧ vf2 = upd vf v.toNatClampNeg o) ∧ w = [(vw, .inr (6, [.ref vN, .ref vS, .ref vM, .ref vF])), (vS, .inl (cI, 640, .inl vs2)), (vM, .inl (cI, 640, .inl vm2)), (vF, .inl (cI, 640, .inl vf2)), (ct, .inr (1, [.int cw, .int ch, .int cp, .ref aCells, .ref aPrices, .ref aFree, .ref aPlaces, .ref aHomes, .ref aManners, .ref aGone, .ref aPaid, .ref aBlinks])), (aCells, .inl (cI, 80, .inl fc))])) := by
  refine b_metV (cc := cX6_settle) (maxL := 5) (ret := none) (by decide) rfl (Nat.le_of_ble_eq_true rfl) ?_
  intro p e s m below meth c ls A H X hsz hP hK hT hD hA hS hl
  have S : CallFix p m c cX6_settle 5 s ([.ref vw, .ref ct, .int v, .int k, .int mt] : List Value).toArray wsX6_settle RX6 := X.1
  have hl : lv_has ls 5 [(0, .ref vw), (1, .ref ct), (2, .int v), (3, .int k), (4, .int mt)] := hl
  have iX6 := jX6_settle_X6
  refine lv_aload_n S.1 S.2.1 dX6_settle_0 rfl (lv_at hl 0 rfl) ?_
  refine b_get (v := .ref vS) S iX6 hK hP 0 rfl rfl 1 (by decide) (by decide +kernel) rfl dX6_settle_1 ?_
  refine lv_iload_n S.1 S.2.1 dX6_settle_4 rfl (lv_at hl 2 rfl) ?_
  refine lv_iload_n S.1 S.2.1 dX6_settle_5 rfl (lv_at hl 3 rfl) ?_
  refine va_iast S.1 S.2.1 hK.1 hP hD hS 1 0 rfl rfl (in_of (n := 640) (by omega) (by omega)) dX6_settle_6 (fun H locs hP hD hS => ?_)
  obtain ⟨f_1, hf_1, rf_1⟩ : ∃ g, (upd vs v.toNatClampNeg (k)) = g ∧ rng g 640 (-1) (79) := ⟨_, rfl, rng_upd (by assumption) (show (-1 : Int) ≤ (k : Int32).toInt ∧ (k : Int32).toInt ≤ 79 from by omega)⟩
  have hP : va_P D vwCl [(vw, .inr (6, [.ref vN, .ref vS, .ref vM, .ref vF])), (vS, .inl (cI, 640, .inl (upd vs v.toNatClampNeg (k)))), (vM, .inl (cI, 640, .inl vm)), (vF, .inl (cI, 640, .inl vf)), (ct, .inr (1, [.int cw, .int ch, .int cp, .ref aCells, .ref aPrices, .ref aFree, .ref aPlaces, .ref aHomes, .ref aManners, .ref aGone, .ref aPaid, .ref aBlinks])), (aCells, .inl (cI, 80, .inl fc))] H := hP
  have hD : va_D A [(vw, .inr (6, [.ref vN, .ref vS, .ref vM, .ref vF])), (vS, .inl (cI, 640, .inl (upd vs v.toNatClampNeg (k)))), (vM, .inl (cI, 640, .inl vm)), (vF, .inl (cI, 640, .inl vf)), (ct, .inr (1, [.int cw, .int ch, .int cp, .ref aCells, .ref aPrices, .ref aFree, .ref aPlaces, .ref aHomes, .ref aManners, .ref aGone, .ref aPaid, .ref aBlinks])), (aCells, .inl (cI, 80, .inl fc))] := hD
  rw [hf_1] at hP hD
  refine lv_aload_n S.1 S.2.1 dX6_settle_7 rfl (lv_at hl 0 rfl) ?_
  refine b_get (v := .ref vM) S iX6 hK hP 0 rfl rfl 2 (by decide) (by decide +kernel) rfl dX6_settle_8 ?_
  refine lv_iload_n S.1 S.2.1 dX6_settle_11 rfl (lv_at hl 2 rfl) ?_
  refine lv_iload S.1 S.2.1 dX6_settle_12 (lv_at hl 4 rfl) ?_
  refine va_iast S.1 S.2.1 hK.1 hP hD hS 2 0 rfl rfl (in_of (n := 640) (by omega) (by omega)) dX6_settle_14 (fun H locs hP hD hS => ?_)
  obtain ⟨f_2, hf_2, rf_2⟩ : ∃ g, (upd vm v.toNatClampNeg (mt)) = g ∧ rng g 640 (0) (2) := ⟨_, rfl, rng_upd (by assumption) (show (0 : Int) ≤ (mt : Int32).toInt ∧ (mt : Int32).toInt ≤ 2 from by omega)⟩
  have hP : va_P D vwCl [(vw, .inr (6, [.ref vN, .ref vS, .ref vM, .ref vF])), (vS, .inl (cI, 640, .inl f_1)), (vM, .inl (cI, 640, .inl (upd vm v.toNatClampNeg (mt)))), (vF, .inl (cI, 640, .inl vf)), (ct, .inr (1, [.int cw, .int ch, .int cp, .ref aCells, .ref aPrices, .ref aFree, .ref aPlaces, .ref aHomes, .ref aManners, .ref aGone, .ref aPaid, .ref aBlinks])), (aCells, .inl (cI, 80, .inl fc))] H := hP
  have hD : va_D A [(vw, .inr (6, [.ref vN, .ref vS, .ref vM, .ref vF])), (vS, .inl (cI, 640, .inl f_1)), (vM, .inl (cI, 640, .inl (upd vm v.toNatClampNeg (mt)))), (vF, .inl (cI, 640, .inl vf)), (ct, .inr (1, [.int cw, .int ch, .int cp, .ref aCells, .ref aPrices, .ref aFree, .ref aPlaces, .ref aHomes, .ref aManners, .ref aGone, .ref aPaid, .ref aBlinks])), (aCells, .inl (cI, 80, .inl fc))] := hD
  rw [hf_2] at hP hD
  refine lv_aload_n S.1 S.2.1 dX6_settle_15 rfl (lv_at hl 0 rfl) ?_
  refine b_get (v := .ref vF) S iX6 hK hP 0 rfl rfl 3 (by decide) (by decide +kernel) rfl dX6_settle_16 ?_
  refine lv_iload_n S.1 S.2.1 dX6_settle_19 rfl (lv_at hl 2 rfl) ?_
  refine lv_aload_n S.1 S.2.1 dX6_settle_20 rfl (lv_at hl 1 rfl) ?_
  refine lv_iload_n S.1 S.2.1 dX6_settle_21 rfl (lv_at hl 3 rfl) ?_
  refine b_ai (wr := [(vw, .inr (6, [.ref vN, .ref vS, .ref vM, .ref vF])), (vS, .inl (cI, 640, .inl f_1)), (vM, .inl (cI, 640, .inl f_2)), (vF, .inl (cI, 640, .inl vf))]) (b_runV (q0 := 4) (ci := 1) (As := [.int k]) (s_X1_ownerOf l D cI cZ cC cS sq H.size ct aCells k cw ch cp aPrices aFree aPlaces aHomes aManners aGone aPaid aBlinks fc (by first | assumption | omega | decide | (rw [show Int32.toInt 0 = 0 from rfl]; omega)) (by first | assumption | omega | decide | (rw [show Int32.toInt 0 = 0 from rfl]; omega)) (by first | assumption | omega | decide | (rw [show Int32.toInt 0 = 0 from rfl]; omega))) S gX6_settle_X1_ownerOf rfl hdV_X1_ownerOf ⟨Nat.le_of_ble_eq_true rfl, Nat.le_of_ble_eq_true rfl⟩ ⟨Nat.le_of_ble_eq_true rfl, Nat.le_of_ble_eq_true rfl⟩ hK hT hS hA hP hD rfl rfl [4, 5] rfl (by decide) rfl hl.1 rfl (Nat.le_of_ble_eq_true rfl) dX6_settle_22) hP hD hS hA [4, 5] [0, 1, 2, 3] rfl rfl (by decide) (by decide) (fun r_3 w_4 H locs hw_5 hP hD hS => ?_)
  obtain ⟨hf_6, hf_7, rfl⟩ := hw_5
  have hP : va_P D vwCl [(vw, .inr (6, [.ref vN, .ref vS, .ref vM, .ref vF])), (vS, .inl (cI, 640, .inl f_1)), (vM, .inl (cI, 640, .inl f_2)), (vF, .inl (cI, 640, .inl vf)), (ct, .inr (1, [.int cw, .int ch, .int cp, .ref aCells, .ref aPrices, .ref aFree, .ref aPlaces, .ref aHomes, .ref aManners, .ref aGone, .ref aPaid, .ref aBlinks])), (aCells, .inl (cI, 80, .inl fc))] H := hP
  have hD : va_D A [(vw, .inr (6, [.ref vN, .ref vS, .ref vM, .ref vF])), (vS, .inl (cI, 640, .inl f_1)), (vM, .inl (cI, 640, .inl f_2)), (vF, .inl (cI, 640, .inl vf)), (ct, .inr (1, [.int cw, .int ch, .int cp, .ref aCells, .ref aPrices, .ref aFree, .ref aPlaces, .ref aHomes, .ref aManners, .ref aGone, .ref aPaid, .ref aBlinks])), (aCells, .inl (cI, 80, .inl fc))] := hD
  refine va_iast S.1 S.2.1 hK.1 hP hD hS 3 0 rfl rfl (in_of (n := 640) (by omega) (by omega)) dX6_settle_25 (fun H locs hP hD hS => ?_)
  obtain ⟨f_8, hf_8, rf_8⟩ : ∃ g, (upd vf v.toNatClampNeg (r_3)) = g ∧ rng g 640 (0) (6) := ⟨_, rfl, rng_upd (by assumption) (show (0 : Int) ≤ (r_3 : Int32).toInt ∧ (r_3 : Int32).toInt ≤ 6 from by omega)⟩
  have hP : va_P D vwCl [(vw, .inr (6, [.ref vN, .ref vS, .ref vM, .ref vF])), (vS, .inl (cI, 640, .inl f_1)), (vM, .inl (cI, 640, .inl f_2)), (vF, .inl (cI, 640, .inl (upd vf v.toNatClampNeg (r_3)))), (ct, .inr (1, [.int cw, .int ch, .int cp, .ref aCells, .ref aPrices, .ref aFree, .ref aPlaces, .ref aHomes, .ref aManners, .ref aGone, .ref aPaid, .ref aBlinks])), (aCells, .inl (cI, 80, .inl fc))] H := hP
  have hD : va_D A [(vw, .inr (6, [.ref vN, .ref vS, .ref vM, .ref vF])), (vS, .inl (cI, 640, .inl f_1)), (vM, .inl (cI, 640, .inl f_2)), (vF, .inl (cI, 640, .inl (upd vf v.toNatClampNeg (r_3)))), (ct, .inr (1, [.int cw, .int ch, .int cp, .ref aCells, .ref aPrices, .ref aFree, .ref aPlaces, .ref aHomes, .ref aManners, .ref aGone, .ref aPaid, .ref aBlinks])), (aCells, .inl (cI, 80, .inl fc))] := hD
  rw [hf_8] at hP hD
  exact b_vret S.1 S.2.1 X.2.1 X.2.2.1 hP hD hS ⟨f_1, f_2, f_8, (by first | assumption | omega | decide | (rw [show Int32.toInt 0 = 0 from rfl]; omega)), (by first | assumption | omega | decide | (rw [show Int32.toInt 0 = 0 from rfl]; omega)), (by first | assumption | omega | decide | (rw [show Int32.toInt 0 = 0 from rfl]; omega)), (Eq.symm (by assumption)), (Eq.symm (by assumption)), (set_f (by assumption) (own_x hgc hgb hki (by assumption))), rfl⟩ dX6_settle_26
set_option maxHeartbeats 4000000 in
set_option maxRecDepth 100000 in
theorem s_X6_reflect (l : Launch) (D : va_G) (cI cZ cC cS : ClassId) (sq : Nat → Nat) (sz : Nat) (vw : Nat) (vS : Nat) (vM : Nat) (vF : Nat) (ct : Nat) (aCells : Nat) (u : Int32) (v : Int32) (vN : Nat) (vs : Nat → Int32) (vm : Nat → Int32) (vf : Nat → Int32) (cw : Int32) (ch : Int32) (cp : Int32) (aPrices : Nat) (aFree : Nat) (aPlaces : Nat) (aHomes : Nat) (aManners : Nat) (aGone : Nat) (aPaid : Nat) (aBlinks : Nat) (fc : Nat → Int32) (gg : Nat → Int) (hrg_vs : rng vs 640 (-1) (79)) (hrg_vm : rng vm 640 (0) (2)) (hrg_vf : rng vf 640 (0) (6)) (hrg_fc : rng fc 80 (-1) (8)) (hw : 0 ≤ cw.toInt ∧ cw.toInt ≤ 10) (hh : 0 ≤ ch.toInt ∧ ch.toInt ≤ 8) (hu : 0 ≤ u.toInt ∧ u.toInt < 640) (hv : 0 ≤ v.toInt ∧ v.toInt < 640) (hgc : GC gg cw.toInt ch.toInt fc) (hgb : gB gg) (hua : (vs u.toNatClampNeg).toInt = -1 ∨ insK gg (vs u.toNatClampNeg).toInt) (hva : (vs v.toNatClampNeg).toInt = -1 ∨ insK gg (vs v.toNatClampNeg).toInt) : mV l yX6_reflect wsX6_reflect 3 120 0 0 D (tyW cI cZ cC cS) sq [(vw, .inr (6, [.ref vN, .ref vS, .ref vM, .ref vF])), (vS, .inl (cI, 640, .inl vs)), (vM, .inl (cI, 640, .inl vm)), (vF, .inl (cI, 640, .inl vf)), (ct, .inr (1, [.int cw, .int ch, .int cp, .ref aCells, .ref aPrices, .ref aFree, .ref aPlaces, .ref aHomes, .ref aManners, .ref aGone, .ref aPaid, .ref aBlinks])), (aCells, .inl (cI, 80, .inl fc))] sz [.ref vw, .ref ct, .int u, .int v] (fun w => (∃ (vs2 : Nat → Int32), ∃ (vm2 : Nat → Int32), ∃ (vf2 : Nat → Int32), (rng vs2 640 (-1) (79)) ∧ (rng vm2 640 (0) (2)) ∧ (rng vf2 640 (0) (6)) ∧ (RF gg vs vm vf vs2 vm2 vf2 u.toNatClampNeg v.toNatClampNeg (vs u.toNatClampNeg).toInt (vs v.toNatClampNeg).toInt) ∧ w = [(vw, .inr (6, [.ref vN, .ref vS, .ref vM, .ref vF])), (vS, .inl (cI, 640, .inl vs2)), (vM, .inl (cI, 640, .inl vm2)), (vF, .inl (cI, 640, .inl vf2)), (ct, .inr (1, [.int cw, .int ch, .int cp, .ref aCells, .ref aPrices, .ref aFree, .ref aPlaces, .ref aHomes, .ref aManners, .ref aGone, .ref aPaid, .ref aBlinks])), (aCells, .inl (cI, 80, .inl fc))])) := by
  refine b_metV (cc := cX6_reflect) (maxL := 8) (ret := none) (by decide) rfl (Nat.le_of_ble_eq_true rfl) ?_
  intro p e s m below meth c ls A H X hsz hP hK hT hD hA hS hl
  have S : CallFix p m c cX6_reflect 8 s ([.ref vw, .ref ct, .int u, .int v] : List Value).toArray wsX6_reflect RX6 := X.1
  have hl : lv_has ls 8 [(0, .ref vw), (1, .ref ct), (2, .int u), (3, .int v)] := hl
  have iX6 := jX6_reflect_X6
  refine lv_aload_n S.1 S.2.1 dX6_reflect_0 rfl (lv_at hl 0 rfl) ?_
  refine b_get (v := .ref vS) S iX6 hK hP 0 rfl rfl 1 (by decide) (by decide +kernel) rfl dX6_reflect_1 ?_
  refine lv_iload_n S.1 S.2.1 dX6_reflect_4 rfl (lv_at hl 2 rfl) ?_
  have hin_1 : vp_in u 640 := (in_of (n := 640) (by omega) (by omega))
  refine va_iald S.1 S.2.1 hK.1 hP 1 0 rfl rfl hin_1 dX6_reflect_5 ?_
  refine lv_topi (fun x_2 ex_2 => ?_)
  have tx_2 := rng_get (x := x_2) (show rng vs 640 (-1) (79) by assumption) hin_1 ex_2
  have kix_2 : x_2.toInt = -1 ∨ insK gg x_2.toInt := by rw [ex_2]; exact hua
  refine lv_istore (lv' := [(4, .int x_2), (0, .ref vw), (1, .ref ct), (2, .int u), (3, .int v)]) S.1 S.2.1 dX6_reflect_6 hl (by decide) rfl (fun ls hl => ?_)
  refine lv_aload_n S.1 S.2.1 dX6_reflect_8 rfl (lv_at hl 1 rfl) ?_
  refine b_get (v := .ref vS) S iX6 hK hP 0 rfl rfl 1 (by decide) (by decide +kernel) rfl dX6_reflect_9 ?_
  refine lv_iload_n S.1 S.2.1 dX6_reflect_12 rfl (lv_at hl 4 rfl) ?_
  have hin_3 : vp_in v 640 := (in_of (n := 640) (by omega) (by omega))
  refine va_iald S.1 S.2.1 hK.1 hP 1 0 rfl rfl hin_3 dX6_reflect_13 ?_
  refine lv_topi (fun x_4 ex_4 => ?_)
  have tx_4 := rng_get (x := x_4) (show rng vs 640 (-1) (79) by assumption) hin_3 ex_4
  have kix_4 : x_4.toInt = -1 ∨ insK gg x_4.toInt := by rw [ex_4]; exact hva
  refine lv_istore (lv' := [(5, .int x_4), (4, .int x_2), (0, .ref vw), (1, .ref ct), (2, .int u), (3, .int v)]) S.1 S.2.1 dX6_reflect_14 hl (by decide) rfl (fun ls hl => ?_)
  refine lv_aload_n S.1 S.2.1 dX6_reflect_16 rfl (lv_at hl 3 rfl) ?_
  refine lv_iload S.1 S.2.1 dX6_reflect_17 (lv_at hl 1 rfl) ?_
  refine b_ai (wr := [(vw, .inr (6, [.ref vN, .ref vS, .ref vM, .ref vF])), (vS, .inl (cI, 640, .inl vs)), (vM, .inl (cI, 640, .inl vm)), (vF, .inl (cI, 640, .inl vf))]) (b_runV (q0 := 4) (ci := 1) (As := [.int x_2]) (s_X1_isMirror l D cI cZ cC cS sq H.size ct aCells x_2 cw ch cp aPrices aFree aPlaces aHomes aManners aGone aPaid aBlinks fc (by first | assumption | omega | decide | (rw [show Int32.toInt 0 = 0 from rfl]; omega)) (by first | assumption | omega | decide | (rw [show Int32.toInt 0 = 0 from rfl]; omega)) (by first | assumption | omega | decide | (rw [show Int32.toInt 0 = 0 from rfl]; omega))) S gX6_reflect_X1_isMirror rfl hdV_X1_isMirror ⟨Nat.le_of_ble_eq_true rfl, Nat.le_of_ble_eq_true rfl⟩ ⟨Nat.le_of_ble_eq_true rfl, Nat.le_of_ble_eq_true rfl⟩ hK hT hS hA hP hD rfl rfl [4, 5] rfl (by decide) rfl hl.1 rfl (Nat.le_of_ble_eq_true rfl) dX6_reflect_19) hP hD hS hA [4, 5] [0, 1, 2, 3] rfl rfl (by decide) (by decide) (fun r_5 w_6 H locs hw_7 hP hD hS => ?_)
  rcases hw_7 with ⟨hf_8, hf_9, rfl, rfl⟩ | ⟨hf_10, rfl, rfl⟩
  · have hP : va_P D vwCl [(vw, .inr (6, [.ref vN, .ref vS, .ref vM, .ref vF])), (vS, .inl (cI, 640, .inl vs)), (vM, .inl (cI, 640, .inl vm)), (vF, .inl (cI, 640, .inl vf)), (ct, .inr (1, [.int cw, .int ch, .int cp, .ref aCells, .ref aPrices, .ref aFree, .ref aPlaces, .ref aHomes, .ref aManners, .ref aGone, .ref aPaid, .ref aBlinks])), (aCells, .inl (cI, 80, .inl fc))] H := hP
    have hD : va_D A [(vw, .inr (6, [.ref vN, .ref vS, .ref vM, .ref vF])), (vS, .inl (cI, 640, .inl vs)), (vM, .inl (cI, 640, .inl vm)), (vF, .inl (cI, 640, .inl vf)), (ct, .inr (1, [.int cw, .int ch, .int cp, .ref aCells, .ref aPrices, .ref aFree, .ref aPlaces, .ref aHomes, .ref aManners, .ref aGone, .ref aPaid, .ref aBlinks])), (aCells, .inl (cI, 80, .inl fc))] := hD
    refine lv_istore (lv' := [(6, .int 1), (5, .int x_4), (4, .int x_2), (0, .ref vw), (1, .ref ct), (2, .int u), (3, .int v)]) S.1 S.2.1 dX6_reflect_22 hl (by decide) rfl (fun ls hl => ?_)
    refine lv_aload_n S.1 S.2.1 dX6_reflect_24 rfl (lv_at hl 4 rfl) ?_
    refine lv_iload S.1 S.2.1 dX6_reflect_25 (lv_at hl 1 rfl) ?_
    refine b_ai (wr := [(vw, .inr (6, [.ref vN, .ref vS, .ref vM, .ref vF])), (vS, .inl (cI, 640, .inl vs)), (vM, .inl (cI, 640, .inl vm)), (vF, .inl (cI, 640, .inl vf))]) (b_runV (q0 := 4) (ci := 1) (As := [.int x_4]) (s_X1_isMirror l D cI cZ cC cS sq H.size ct aCells x_4 cw ch cp aPrices aFree aPlaces aHomes aManners aGone aPaid aBlinks fc (by first | assumption | omega | decide | (rw [show Int32.toInt 0 = 0 from rfl]; omega)) (by first | assumption | omega | decide | (rw [show Int32.toInt 0 = 0 from rfl]; omega)) (by first | assumption | omega | decide | (rw [show Int32.toInt 0 = 0 from rfl]; omega))) S gX6_reflect_X1_isMirror rfl hdV_X1_isMirror ⟨Nat.le_of_ble_eq_true rfl, Nat.le_of_ble_eq_true rfl⟩ ⟨Nat.le_of_ble_eq_true rfl, Nat.le_of_ble_eq_true rfl⟩ hK hT hS hA hP hD rfl rfl [4, 5] rfl (by decide) rfl hl.1 rfl (Nat.le_of_ble_eq_true rfl) dX6_reflect_27) hP hD hS hA [4, 5] [0, 1, 2, 3] rfl rfl (by decide) (by decide) (fun r_11 w_12 H locs hw_13 hP hD hS => ?_)
    rcases hw_13 with ⟨hf_14, hf_15, rfl, rfl⟩ | ⟨hf_16, rfl, rfl⟩
    · have hP : va_P D vwCl [(vw, .inr (6, [.ref vN, .ref vS, .ref vM, .ref vF])), (vS, .inl (cI, 640, .inl vs)), (vM, .inl (cI, 640, .inl vm)), (vF, .inl (cI, 640, .inl vf)), (ct, .inr (1, [.int cw, .int ch, .int cp, .ref aCells, .ref aPrices, .ref aFree, .ref aPlaces, .ref aHomes, .ref aManners, .ref aGone, .ref aPaid, .ref aBlinks])), (aCells, .inl (cI, 80, .inl fc))] H := hP
      have hD : va_D A [(vw, .inr (6, [.ref vN, .ref vS, .ref vM, .ref vF])), (vS, .inl (cI, 640, .inl vs)), (vM, .inl (cI, 640, .inl vm)), (vF, .inl (cI, 640, .inl vf)), (ct, .inr (1, [.int cw, .int ch, .int cp, .ref aCells, .ref aPrices, .ref aFree, .ref aPlaces, .ref aHomes, .ref aManners, .ref aGone, .ref aPaid, .ref aBlinks])), (aCells, .inl (cI, 80, .inl fc))] := hD
      refine lv_istore (lv' := [(7, .int 1), (6, .int 1), (5, .int x_4), (4, .int x_2), (0, .ref vw), (1, .ref ct), (2, .int u), (3, .int v)]) S.1 S.2.1 dX6_reflect_30 hl (by decide) rfl (fun ls hl => ?_)
      refine lv_iload S.1 S.2.1 dX6_reflect_32 (lv_at hl 1 rfl) ?_
      refine lv_if_eq (tgt := 61) S.1 S.2.1 dX6_reflect_34 (by decide) (fun c_17 => absurd c_17 (by decide)) (fun c_17 => ?_)
      refine lv_iload S.1 S.2.1 dX6_reflect_37 (lv_at hl 0 rfl) ?_
      refine lv_if_eq (tgt := 61) S.1 S.2.1 dX6_reflect_39 (by decide) (fun c_18 => absurd c_18 (by decide)) (fun c_18 => ?_)
      refine lv_aload_n S.1 S.2.1 dX6_reflect_42 rfl (lv_at hl 4 rfl) ?_
      refine lv_aload_n S.1 S.2.1 dX6_reflect_43 rfl (lv_at hl 5 rfl) ?_
      refine lv_iload_n S.1 S.2.1 dX6_reflect_44 rfl (lv_at hl 6 rfl) ?_
      refine lv_iconst (v := (-1)) S.1 S.2.1 dX6_reflect_45 (by decide) ?_
      refine lv_iconst (v := (2)) S.1 S.2.1 dX6_reflect_46 (by decide) ?_
      refine b_av (wr := []) (b_runV (q0 := 0) (ci := 6) (As := [.ref ct, .int u, .int (-1), .int 2]) (s_X6_settle l D cI cZ cC cS sq H.size vw vS vM vF ct aCells u (-1) (2) vN vs vm vf cw ch cp aPrices aFree aPlaces aHomes aManners aGone aPaid aBlinks fc _ (by first | assumption | omega | decide | (rw [show Int32.toInt 0 = 0 from rfl]; omega)) (by first | assumption | omega | decide | (rw [show Int32.toInt 0 = 0 from rfl]; omega)) (by first | assumption | omega | decide | (rw [show Int32.toInt 0 = 0 from rfl]; omega)) (by first | assumption | omega | decide | (rw [show Int32.toInt 0 = 0 from rfl]; omega)) (by first | assumption | omega | decide | (rw [show Int32.toInt 0 = 0 from rfl]; omega)) (by first | assumption | omega | decide | (rw [show Int32.toInt 0 = 0 from rfl]; omega)) (by first | assumption | omega | decide | (rw [show Int32.toInt 0 = 0 from rfl]; omega)) (by first | assumption | omega | decide | (rw [show Int32.toInt 0 = 0 from rfl]; omega)) (by first | assumption | omega | decide | (rw [show Int32.toInt 0 = 0 from rfl]; omega)) (by first | assumption | omega | decide | (rw [show Int32.toInt 0 = 0 from rfl]; omega)) (by first | assumption | omega | decide | (rw [show Int32.toInt 0 = 0 from rfl]; omega)) (Or.inl (by decide))) S gX6_reflect_X6_settle rfl hdV_X6_settle ⟨Nat.le_of_ble_eq_true rfl, Nat.le_of_ble_eq_true rfl⟩ ⟨Nat.le_of_ble_eq_true rfl, Nat.le_of_ble_eq_true rfl⟩ hK hT hS hA hP hD rfl rfl [0, 1, 2, 3, 4, 5] rfl (by decide) rfl hl.1 rfl (Nat.le_of_ble_eq_true rfl) dX6_reflect_47) hP hD hS hA [0, 1, 2, 3, 4, 5] [] rfl rfl (by decide) (by decide) (fun w_20 H locs hw_21 hP hD hS => ?_)
      obtain ⟨vs2_22, vm2_23, vf2_24, hf_25, hf_26, hf_27, hf_28, hf_29, hf_30, rfl⟩ := hw_21
      have hf_30 : ∃ o : Int32, o.toInt = ownG gg ((-1) : Int) ∧ vf2_24 = upd vf u.toNatClampNeg o := hf_30
      have hP : va_P D vwCl [(vw, .inr (6, [.ref vN, .ref vS, .ref vM, .ref vF])), (vS, .inl (cI, 640, .inl vs2_22)), (vM, .inl (cI, 640, .inl vm2_23)), (vF, .inl (cI, 640, .inl vf2_24)), (ct, .inr (1, [.int cw, .int ch, .int cp, .ref aCells, .ref aPrices, .ref aFree, .ref aPlaces, .ref aHomes, .ref aManners, .ref aGone, .ref aPaid, .ref aBlinks])), (aCells, .inl (cI, 80, .inl fc))] H := hP
      have hD : va_D A [(vw, .inr (6, [.ref vN, .ref vS, .ref vM, .ref vF])), (vS, .inl (cI, 640, .inl vs2_22)), (vM, .inl (cI, 640, .inl vm2_23)), (vF, .inl (cI, 640, .inl vf2_24)), (ct, .inr (1, [.int cw, .int ch, .int cp, .ref aCells, .ref aPrices, .ref aFree, .ref aPlaces, .ref aHomes, .ref aManners, .ref aGone, .ref aPaid, .ref aBlinks])), (aCells, .inl (cI, 80, .inl fc))] := hD
      refine lv_aload_n S.1 S.2.1 dX6_reflect_50 rfl (lv_at hl 4 rfl) ?_
      refine lv_aload_n S.1 S.2.1 dX6_reflect_51 rfl (lv_at hl 5 rfl) ?_
      refine lv_iload_n S.1 S.2.1 dX6_reflect_52 rfl (lv_at hl 7 rfl) ?_
      refine lv_iconst (v := (-1)) S.1 S.2.1 dX6_reflect_53 (by decide) ?_
      refine lv_iconst (v := (2)) S.1 S.2.1 dX6_reflect_54 (by decide) ?_
      refine b_av (wr := []) (b_runV (q0 := 0) (ci := 6) (As := [.ref ct, .int v, .int (-1), .int 2]) (s_X6_settle l D cI cZ cC cS sq H.size vw vS vM vF ct aCells v (-1) (2) vN vs2_22 vm2_23 vf2_24 cw ch cp aPrices aFree aPlaces aHomes aManners aGone aPaid aBlinks fc _ (by first | assumption | omega | decide | (rw [show Int32.toInt 0 = 0 from rfl]; omega)) (by first | assumption | omega | decide | (rw [show Int32.toInt 0 = 0 from rfl]; omega)) (by first | assumption | omega | decide | (rw [show Int32.toInt 0 = 0 from rfl]; omega)) (by first | assumption | omega | decide | (rw [show Int32.toInt 0 = 0 from rfl]; omega)) (by first | assumption | omega | decide | (rw [show Int32.toInt 0 = 0 from rfl]; omega)) (by first | assumption | omega | decide | (rw [show Int32.toInt 0 = 0 from rfl]; omega)) (by first | assumption | omega | decide | (rw [show Int32.toInt 0 = 0 from rfl]; omega)) (by first | assumption | omega | decide | (rw [show Int32.toInt 0 = 0 from rfl]; omega)) (by first | assumption | omega | decide | (rw [show Int32.toInt 0 = 0 from rfl]; omega)) (by first | assumption | omega | decide | (rw [show Int32.toInt 0 = 0 from rfl]; omega)) (by first | assumption | omega | decide | (rw [show Int32.toInt 0 = 0 from rfl]; omega)) (Or.inl (by decide))) S gX6_reflect_X6_settle rfl hdV_X6_settle ⟨Nat.le_of_ble_eq_true rfl, Nat.le_of_ble_eq_true rfl⟩ ⟨Nat.le_of_ble_eq_true rfl, Nat.le_of_ble_eq_true rfl⟩ hK hT hS hA hP hD rfl rfl [0, 1, 2, 3, 4, 5] rfl (by decide) rfl hl.1 rfl (Nat.le_of_ble_eq_true rfl) dX6_reflect_55) hP hD hS hA [0, 1, 2, 3, 4, 5] [] rfl rfl (by decide) (by decide) (fun w_32 H locs hw_33 hP hD hS => ?_)
      obtain ⟨vs2_34, vm2_35, vf2_36, hf_37, hf_38, hf_39, hf_40, hf_41, hf_42, rfl⟩ := hw_33
      have hf_42 : ∃ o : Int32, o.toInt = ownG gg ((-1) : Int) ∧ vf2_36 = upd vf2_24 v.toNatClampNeg o := hf_42
      have hP : va_P D vwCl [(vw, .inr (6, [.ref vN, .ref vS, .ref vM, .ref vF])), (vS, .inl (cI, 640, .inl vs2_34)), (vM, .inl (cI, 640, .inl vm2_35)), (vF, .inl (cI, 640, .inl vf2_36)), (ct, .inr (1, [.int cw, .int ch, .int cp, .ref aCells, .ref aPrices, .ref aFree, .ref aPlaces, .ref aHomes, .ref aManners, .ref aGone, .ref aPaid, .ref aBlinks])), (aCells, .inl (cI, 80, .inl fc))] H := hP
      have hD : va_D A [(vw, .inr (6, [.ref vN, .ref vS, .ref vM, .ref vF])), (vS, .inl (cI, 640, .inl vs2_34)), (vM, .inl (cI, 640, .inl vm2_35)), (vF, .inl (cI, 640, .inl vf2_36)), (ct, .inr (1, [.int cw, .int ch, .int cp, .ref aCells, .ref aPrices, .ref aFree, .ref aPlaces, .ref aHomes, .ref aManners, .ref aGone, .ref aPaid, .ref aBlinks])), (aCells, .inl (cI, 80, .inl fc))] := hD
      refine lv_goto (tgt := 117) S.1 S.2.1 dX6_reflect_58 (by decide) ?_
      exact b_vret S.1 S.2.1 X.2.1 X.2.2.1 hP hD hS ⟨vs2_34, vm2_35, vf2_36, (by first | assumption | omega | decide | (rw [show Int32.toInt 0 = 0 from rfl]; omega)), (by first | assumption | omega | decide | (rw [show Int32.toInt 0 = 0 from rfl]; omega)), (by first | assumption | omega | decide | (rw [show Int32.toInt 0 = 0 from rfl]; omega)), (by first | exact rf_11 (by assumption) (by assumption) hgc hgb (by assumption) (by assumption) (by assumption) (by assumption) (by assumption) (by assumption) (by assumption) (by assumption) | exact rf_10 (by assumption) (by assumption) hgc hgb (by assumption) (by assumption) (by assumption) (by assumption) (by assumption) (by assumption) (by assumption) (by assumption) (by assumption) | exact rf_01 (by assumption) (by assumption) hgc hgb (by assumption) (by assumption) (by assumption) (by assumption) (by assumption) (by assumption) (by assumption) (by assumption) (by assumption) | exact rf_00 (by assumption) (by assumption) hgc hgb (by assumption) (by assumption) (by assumption) (by assumption) (by assumption) (by assumption) (by assumption) (by assumption) (by assumption) (by assumption)), rfl⟩ dX6_reflect_117
    · have hP : va_P D vwCl [(vw, .inr (6, [.ref vN, .ref vS, .ref vM, .ref vF])), (vS, .inl (cI, 640, .inl vs)), (vM, .inl (cI, 640, .inl vm)), (vF, .inl (cI, 640, .inl vf)), (ct, .inr (1, [.int cw, .int ch, .int cp, .ref aCells, .ref aPrices, .ref aFree, .ref aPlaces, .ref aHomes, .ref aManners, .ref aGone, .ref aPaid, .ref aBlinks])), (aCells, .inl (cI, 80, .inl fc))] H := hP
      have hD : va_D A [(vw, .inr (6, [.ref vN, .ref vS, .ref vM, .ref vF])), (vS, .inl (cI, 640, .inl vs)), (vM, .inl (cI, 640, .inl vm)), (vF, .inl (cI, 640, .inl vf)), (ct, .inr (1, [.int cw, .int ch, .int cp, .ref aCells, .ref aPrices, .ref aFree, .ref aPlaces, .ref aHomes, .ref aManners, .ref aGone, .ref aPaid, .ref aBlinks])), (aCells, .inl (cI, 80, .inl fc))] := hD
      refine lv_istore (lv' := [(7, .int 0), (6, .int 1), (5, .int x_4), (4, .int x_2), (0, .ref vw), (1, .ref ct), (2, .int u), (3, .int v)]) S.1 S.2.1 dX6_reflect_30 hl (by decide) rfl (fun ls hl => ?_)
      refine lv_iload S.1 S.2.1 dX6_reflect_32 (lv_at hl 1 rfl) ?_
      refine lv_if_eq (tgt := 61) S.1 S.2.1 dX6_reflect_34 (by decide) (fun c_43 => absurd c_43 (by decide)) (fun c_43 => ?_)
      refine lv_iload S.1 S.2.1 dX6_reflect_37 (lv_at hl 0 rfl) ?_
      refine lv_if_eq (tgt := 61) S.1 S.2.1 dX6_reflect_39 (by decide) (fun c_44 => ?_) (fun c_44 => absurd c_44 (by decide))
      refine lv_aload_n S.1 S.2.1 dX6_reflect_61 rfl (lv_at hl 4 rfl) ?_
      refine lv_aload_n S.1 S.2.1 dX6_reflect_62 rfl (lv_at hl 5 rfl) ?_
      refine lv_iload_n S.1 S.2.1 dX6_reflect_63 rfl (lv_at hl 6 rfl) ?_
      refine lv_iload S.1 S.2.1 dX6_reflect_64 (lv_at hl 1 rfl) ?_
      refine lv_if_eq (tgt := 74) S.1 S.2.1 dX6_reflect_66 (by decide) (fun c_45 => absurd c_45 (by decide)) (fun c_45 => ?_)
      refine lv_iload S.1 S.2.1 dX6_reflect_69 (lv_at hl 2 rfl) ?_
      refine lv_goto (tgt := 76) S.1 S.2.1 dX6_reflect_71 (by decide) ?_
      refine lv_iload S.1 S.2.1 dX6_reflect_76 (lv_at hl 1 rfl) ?_
      refine lv_if_eq (tgt := 85) S.1 S.2.1 dX6_reflect_78 (by decide) (fun c_46 => absurd c_46 (by decide)) (fun c_46 => ?_)
      refine lv_iconst (v := (1)) S.1 S.2.1 dX6_reflect_81 (by decide) ?_
      refine lv_goto (tgt := 86) S.1 S.2.1 dX6_reflect_82 (by decide) ?_
      refine b_av (wr := []) (b_runV (q0 := 0) (ci := 6) (As := [.ref ct, .int u, .int x_4, .int 1]) (s_X6_settle l D cI cZ cC cS sq H.size vw vS vM vF ct aCells u x_4 (1) vN vs vm vf cw ch cp aPrices aFree aPlaces aHomes aManners aGone aPaid aBlinks fc _ (by first | assumption | omega | decide | (rw [show Int32.toInt 0 = 0 from rfl]; omega)) (by first | assumption | omega | decide | (rw [show Int32.toInt 0 = 0 from rfl]; omega)) (by first | assumption | omega | decide | (rw [show Int32.toInt 0 = 0 from rfl]; omega)) (by first | assumption | omega | decide | (rw [show Int32.toInt 0 = 0 from rfl]; omega)) (by first | assumption | omega | decide | (rw [show Int32.toInt 0 = 0 from rfl]; omega)) (by first | assumption | omega | decide | (rw [show Int32.toInt 0 = 0 from rfl]; omega)) (by first | assumption | omega | decide | (rw [show Int32.toInt 0 = 0 from rfl]; omega)) (by first | assumption | omega | decide | (rw [show Int32.toInt 0 = 0 from rfl]; omega)) (by first | assumption | omega | decide | (rw [show Int32.toInt 0 = 0 from rfl]; omega)) (by first | assumption | omega | decide | (rw [show Int32.toInt 0 = 0 from rfl]; omega)) (by first | assumption | omega | decide | (rw [show Int32.toInt 0 = 0 from rfl]; omega)) (by first | assumption | omega | decide | (rw [show Int32.toInt 0 = 0 from rfl]; omega))) S gX6_reflect_X6_settle rfl hdV_X6_settle ⟨Nat.le_of_ble_eq_true rfl, Nat.le_of_ble_eq_true rfl⟩ ⟨Nat.le_of_ble_eq_true rfl, Nat.le_of_ble_eq_true rfl⟩ hK hT hS hA hP hD rfl rfl [0, 1, 2, 3, 4, 5] rfl (by decide) rfl hl.1 rfl (Nat.le_of_ble_eq_true rfl) dX6_reflect_86) hP hD hS hA [0, 1, 2, 3, 4, 5] [] rfl rfl (by decide) (by decide) (fun w_48 H locs hw_49 hP hD hS => ?_)
      obtain ⟨vs2_50, vm2_51, vf2_52, hf_53, hf_54, hf_55, hf_56, hf_57, hf_58, rfl⟩ := hw_49
      have hP : va_P D vwCl [(vw, .inr (6, [.ref vN, .ref vS, .ref vM, .ref vF])), (vS, .inl (cI, 640, .inl vs2_50)), (vM, .inl (cI, 640, .inl vm2_51)), (vF, .inl (cI, 640, .inl vf2_52)), (ct, .inr (1, [.int cw, .int ch, .int cp, .ref aCells, .ref aPrices, .ref aFree, .ref aPlaces, .ref aHomes, .ref aManners, .ref aGone, .ref aPaid, .ref aBlinks])), (aCells, .inl (cI, 80, .inl fc))] H := hP
      have hD : va_D A [(vw, .inr (6, [.ref vN, .ref vS, .ref vM, .ref vF])), (vS, .inl (cI, 640, .inl vs2_50)), (vM, .inl (cI, 640, .inl vm2_51)), (vF, .inl (cI, 640, .inl vf2_52)), (ct, .inr (1, [.int cw, .int ch, .int cp, .ref aCells, .ref aPrices, .ref aFree, .ref aPlaces, .ref aHomes, .ref aManners, .ref aGone, .ref aPaid, .ref aBlinks])), (aCells, .inl (cI, 80, .inl fc))] := hD
      refine lv_aload_n S.1 S.2.1 dX6_reflect_89 rfl (lv_at hl 4 rfl) ?_
      refine lv_aload_n S.1 S.2.1 dX6_reflect_90 rfl (lv_at hl 5 rfl) ?_
      refine lv_iload_n S.1 S.2.1 dX6_reflect_91 rfl (lv_at hl 7 rfl) ?_
      refine lv_iload S.1 S.2.1 dX6_reflect_92 (lv_at hl 0 rfl) ?_
      refine lv_if_eq (tgt := 102) S.1 S.2.1 dX6_reflect_94 (by decide) (fun c_59 => ?_) (fun c_59 => absurd c_59 (by decide))
      refine lv_iload S.1 S.2.1 dX6_reflect_102 (lv_at hl 2 rfl) ?_
      refine lv_iload S.1 S.2.1 dX6_reflect_104 (lv_at hl 0 rfl) ?_
      refine lv_if_eq (tgt := 113) S.1 S.2.1 dX6_reflect_106 (by decide) (fun c_60 => ?_) (fun c_60 => absurd c_60 (by decide))
      refine lv_iconst (v := (0)) S.1 S.2.1 dX6_reflect_113 (by decide) ?_
      refine b_av (wr := []) (b_runV (q0 := 0) (ci := 6) (As := [.ref ct, .int v, .int x_4, .int 0]) (s_X6_settle l D cI cZ cC cS sq H.size vw vS vM vF ct aCells v x_4 (0) vN vs2_50 vm2_51 vf2_52 cw ch cp aPrices aFree aPlaces aHomes aManners aGone aPaid aBlinks fc _ (by first | assumption | omega | decide | (rw [show Int32.toInt 0 = 0 from rfl]; omega)) (by first | assumption | omega | decide | (rw [show Int32.toInt 0 = 0 from rfl]; omega)) (by first | assumption | omega | decide | (rw [show Int32.toInt 0 = 0 from rfl]; omega)) (by first | assumption | omega | decide | (rw [show Int32.toInt 0 = 0 from rfl]; omega)) (by first | assumption | omega | decide | (rw [show Int32.toInt 0 = 0 from rfl]; omega)) (by first | assumption | omega | decide | (rw [show Int32.toInt 0 = 0 from rfl]; omega)) (by first | assumption | omega | decide | (rw [show Int32.toInt 0 = 0 from rfl]; omega)) (by first | assumption | omega | decide | (rw [show Int32.toInt 0 = 0 from rfl]; omega)) (by first | assumption | omega | decide | (rw [show Int32.toInt 0 = 0 from rfl]; omega)) (by first | assumption | omega | decide | (rw [show Int32.toInt 0 = 0 from rfl]; omega)) (by first | assumption | omega | decide | (rw [show Int32.toInt 0 = 0 from rfl]; omega)) (by first | assumption | omega | decide | (rw [show Int32.toInt 0 = 0 from rfl]; omega))) S gX6_reflect_X6_settle rfl hdV_X6_settle ⟨Nat.le_of_ble_eq_true rfl, Nat.le_of_ble_eq_true rfl⟩ ⟨Nat.le_of_ble_eq_true rfl, Nat.le_of_ble_eq_true rfl⟩ hK hT hS hA hP hD rfl rfl [0, 1, 2, 3, 4, 5] rfl (by decide) rfl hl.1 rfl (Nat.le_of_ble_eq_true rfl) dX6_reflect_114) hP hD hS hA [0, 1, 2, 3, 4, 5] [] rfl rfl (by decide) (by decide) (fun w_62 H locs hw_63 hP hD hS => ?_)
      obtain ⟨vs2_64, vm2_65, vf2_66, hf_67, hf_68, hf_69, hf_70, hf_71, hf_72, rfl⟩ := hw_63
      have hP : va_P D vwCl [(vw, .inr (6, [.ref vN, .ref vS, .ref vM, .ref vF])), (vS, .inl (cI, 640, .inl vs2_64)), (vM, .inl (cI, 640, .inl vm2_65)), (vF, .inl (cI, 640, .inl vf2_66)), (ct, .inr (1, [.int cw, .int ch, .int cp, .ref aCells, .ref aPrices, .ref aFree, .ref aPlaces, .ref aHomes, .ref aManners, .ref aGone, .ref aPaid, .ref aBlinks])), (aCells, .inl (cI, 80, .inl fc))] H := hP
      have hD : va_D A [(vw, .inr (6, [.ref vN, .ref vS, .ref vM, .ref vF])), (vS, .inl (cI, 640, .inl vs2_64)), (vM, .inl (cI, 640, .inl vm2_65)), (vF, .inl (cI, 640, .inl vf2_66)), (ct, .inr (1, [.int cw, .int ch, .int cp, .ref aCells, .ref aPrices, .ref aFree, .ref aPlaces, .ref aHomes, .ref aManners, .ref aGone, .ref aPaid, .ref aBlinks])), (aCells, .inl (cI, 80, .inl fc))] := hD
      exact b_vret S.1 S.2.1 X.2.1 X.2.2.1 hP hD hS ⟨vs2_64, vm2_65, vf2_66, (by first | assumption | omega | decide | (rw [show Int32.toInt 0 = 0 from rfl]; omega)), (by first | assumption | omega | decide | (rw [show Int32.toInt 0 = 0 from rfl]; omega)), (by first | assumption | omega | decide | (rw [show Int32.toInt 0 = 0 from rfl]; omega)), (by first | exact rf_11 (by assumption) (by assumption) hgc hgb (by assumption) (by assumption) (by assumption) (by assumption) (by assumption) (by assumption) (by assumption) (by assumption) | exact rf_10 (by assumption) (by assumption) hgc hgb (by assumption) (by assumption) (by assumption) (by assumption) (by assumption) (by assumption) (by assumption) (by assumption) (by assumption) | exact rf_01 (by assumption) (by assumption) hgc hgb (by assumption) (by assumption) (by assumption) (by assumption) (by assumption) (by assumption) (by assumption) (by assumption) (by assumption) | exact rf_00 (by assumption) (by assumption) hgc hgb (by assumption) (by assumption) (by assumption) (by assumption) (by assumption) (by assumption) (by assumption) (by assumption) (by assumption) (by assumption)), rfl⟩ dX6_reflect_117
  · have hP : va_P D vwCl [(vw, .inr (6, [.ref vN, .ref vS, .ref vM, .ref vF])), (vS, .inl (cI, 640, .inl vs)), (vM, .inl (cI, 640, .inl vm)), (vF, .inl (cI, 640, .inl vf)), (ct, .inr (1, [.int cw, .int ch, .int cp, .ref aCells, .ref aPrices, .ref aFree, .ref aPlaces, .ref aHomes, .ref aManners, .ref aGone, .ref aPaid, .ref aBlinks])), (aCells, .inl (cI, 80, .inl fc))] H := hP
    have hD : va_D A [(vw, .inr (6, [.ref vN, .ref vS, .ref vM, .ref vF])), (vS, .inl (cI, 640, .inl vs)), (vM, .inl (cI, 640, .inl vm)), (vF, .inl (cI, 640, .inl vf)), (ct, .inr (1, [.int cw, .int ch, .int cp, .ref aCells, .ref aPrices, .ref aFree, .ref aPlaces, .ref aHomes, .ref aManners, .ref aGone, .ref aPaid, .ref aBlinks])), (aCells, .inl (cI, 80, .inl fc))] := hD
    refine lv_istore (lv' := [(6, .int 0), (5, .int x_4), (4, .int x_2), (0, .ref vw), (1, .ref ct), (2, .int u), (3, .int v)]) S.1 S.2.1 dX6_reflect_22 hl (by decide) rfl (fun ls hl => ?_)
    refine lv_aload_n S.1 S.2.1 dX6_reflect_24 rfl (lv_at hl 4 rfl) ?_
    refine lv_iload S.1 S.2.1 dX6_reflect_25 (lv_at hl 1 rfl) ?_
    refine b_ai (wr := [(vw, .inr (6, [.ref vN, .ref vS, .ref vM, .ref vF])), (vS, .inl (cI, 640, .inl vs)), (vM, .inl (cI, 640, .inl vm)), (vF, .inl (cI, 640, .inl vf))]) (b_runV (q0 := 4) (ci := 1) (As := [.int x_4]) (s_X1_isMirror l D cI cZ cC cS sq H.size ct aCells x_4 cw ch cp aPrices aFree aPlaces aHomes aManners aGone aPaid aBlinks fc (by first | assumption | omega | decide | (rw [show Int32.toInt 0 = 0 from rfl]; omega)) (by first | assumption | omega | decide | (rw [show Int32.toInt 0 = 0 from rfl]; omega)) (by first | assumption | omega | decide | (rw [show Int32.toInt 0 = 0 from rfl]; omega))) S gX6_reflect_X1_isMirror rfl hdV_X1_isMirror ⟨Nat.le_of_ble_eq_true rfl, Nat.le_of_ble_eq_true rfl⟩ ⟨Nat.le_of_ble_eq_true rfl, Nat.le_of_ble_eq_true rfl⟩ hK hT hS hA hP hD rfl rfl [4, 5] rfl (by decide) rfl hl.1 rfl (Nat.le_of_ble_eq_true rfl) dX6_reflect_27) hP hD hS hA [4, 5] [0, 1, 2, 3] rfl rfl (by decide) (by decide) (fun r_73 w_74 H locs hw_75 hP hD hS => ?_)
    rcases hw_75 with ⟨hf_76, hf_77, rfl, rfl⟩ | ⟨hf_78, rfl, rfl⟩
    · have hP : va_P D vwCl [(vw, .inr (6, [.ref vN, .ref vS, .ref vM, .ref vF])), (vS, .inl (cI, 640, .inl vs)), (vM, .inl (cI, 640, .inl vm)), (vF, .inl (cI, 640, .inl vf)), (ct, .inr (1, [.int cw, .int ch, .int cp, .ref aCells, .ref aPrices, .ref aFree, .ref aPlaces, .ref aHomes, .ref aManners, .ref aGone, .ref aPaid, .ref aBlinks])), (aCells, .inl (cI, 80, .inl fc))] H := hP
      have hD : va_D A [(vw, .inr (6, [.ref vN, .ref vS, .ref vM, .ref vF])), (vS, .inl (cI, 640, .inl vs)), (vM, .inl (cI, 640, .inl vm)), (vF, .inl (cI, 640, .inl vf)), (ct, .inr (1, [.int cw, .int ch, .int cp, .ref aCells, .ref aPrices, .ref aFree, .ref aPlaces, .ref aHomes, .ref aManners, .ref aGone, .ref aPaid, .ref aBlinks])), (aCells, .inl (cI, 80, .inl fc))] := hD
      refine lv_istore (lv' := [(7, .int 1), (6, .int 0), (5, .int x_4), (4, .int x_2), (0, .ref vw), (1, .ref ct), (2, .int u), (3, .int v)]) S.1 S.2.1 dX6_reflect_30 hl (by decide) rfl (fun ls hl => ?_)
      refine lv_iload S.1 S.2.1 dX6_reflect_32 (lv_at hl 1 rfl) ?_
      refine lv_if_eq (tgt := 61) S.1 S.2.1 dX6_reflect_34 (by decide) (fun c_79 => ?_) (fun c_79 => absurd c_79 (by decide))
      refine lv_aload_n S.1 S.2.1 dX6_reflect_61 rfl (lv_at hl 4 rfl) ?_
      refine lv_aload_n S.1 S.2.1 dX6_reflect_62 rfl (lv_at hl 5 rfl) ?_
      refine lv_iload_n S.1 S.2.1 dX6_reflect_63 rfl (lv_at hl 6 rfl) ?_
      refine lv_iload S.1 S.2.1 dX6_reflect_64 (lv_at hl 1 rfl) ?_
      refine lv_if_eq (tgt := 74) S.1 S.2.1 dX6_reflect_66 (by decide) (fun c_80 => ?_) (fun c_80 => absurd c_80 (by decide))
      refine lv_iload S.1 S.2.1 dX6_reflect_74 (lv_at hl 3 rfl) ?_
      refine lv_iload S.1 S.2.1 dX6_reflect_76 (lv_at hl 1 rfl) ?_
      refine lv_if_eq (tgt := 85) S.1 S.2.1 dX6_reflect_78 (by decide) (fun c_81 => ?_) (fun c_81 => absurd c_81 (by decide))
      refine lv_iconst (v := (0)) S.1 S.2.1 dX6_reflect_85 (by decide) ?_
      refine b_av (wr := []) (b_runV (q0 := 0) (ci := 6) (As := [.ref ct, .int u, .int x_2, .int 0]) (s_X6_settle l D cI cZ cC cS sq H.size vw vS vM vF ct aCells u x_2 (0) vN vs vm vf cw ch cp aPrices aFree aPlaces aHomes aManners aGone aPaid aBlinks fc _ (by first | assumption | omega | decide | (rw [show Int32.toInt 0 = 0 from rfl]; omega)) (by first | assumption | omega | decide | (rw [show Int32.toInt 0 = 0 from rfl]; omega)) (by first | assumption | omega | decide | (rw [show Int32.toInt 0 = 0 from rfl]; omega)) (by first | assumption | omega | decide | (rw [show Int32.toInt 0 = 0 from rfl]; omega)) (by first | assumption | omega | decide | (rw [show Int32.toInt 0 = 0 from rfl]; omega)) (by first | assumption | omega | decide | (rw [show Int32.toInt 0 = 0 from rfl]; omega)) (by first | assumption | omega | decide | (rw [show Int32.toInt 0 = 0 from rfl]; omega)) (by first | assumption | omega | decide | (rw [show Int32.toInt 0 = 0 from rfl]; omega)) (by first | assumption | omega | decide | (rw [show Int32.toInt 0 = 0 from rfl]; omega)) (by first | assumption | omega | decide | (rw [show Int32.toInt 0 = 0 from rfl]; omega)) (by first | assumption | omega | decide | (rw [show Int32.toInt 0 = 0 from rfl]; omega)) (by first | assumption | omega | decide | (rw [show Int32.toInt 0 = 0 from rfl]; omega))) S gX6_reflect_X6_settle rfl hdV_X6_settle ⟨Nat.le_of_ble_eq_true rfl, Nat.le_of_ble_eq_true rfl⟩ ⟨Nat.le_of_ble_eq_true rfl, Nat.le_of_ble_eq_true rfl⟩ hK hT hS hA hP hD rfl rfl [0, 1, 2, 3, 4, 5] rfl (by decide) rfl hl.1 rfl (Nat.le_of_ble_eq_true rfl) dX6_reflect_86) hP hD hS hA [0, 1, 2, 3, 4, 5] [] rfl rfl (by decide) (by decide) (fun w_83 H locs hw_84 hP hD hS => ?_)
      obtain ⟨vs2_85, vm2_86, vf2_87, hf_88, hf_89, hf_90, hf_91, hf_92, hf_93, rfl⟩ := hw_84
      have hP : va_P D vwCl [(vw, .inr (6, [.ref vN, .ref vS, .ref vM, .ref vF])), (vS, .inl (cI, 640, .inl vs2_85)), (vM, .inl (cI, 640, .inl vm2_86)), (vF, .inl (cI, 640, .inl vf2_87)), (ct, .inr (1, [.int cw, .int ch, .int cp, .ref aCells, .ref aPrices, .ref aFree, .ref aPlaces, .ref aHomes, .ref aManners, .ref aGone, .ref aPaid, .ref aBlinks])), (aCells, .inl (cI, 80, .inl fc))] H := hP
      have hD : va_D A [(vw, .inr (6, [.ref vN, .ref vS, .ref vM, .ref vF])), (vS, .inl (cI, 640, .inl vs2_85)), (vM, .inl (cI, 640, .inl vm2_86)), (vF, .inl (cI, 640, .inl vf2_87)), (ct, .inr (1, [.int cw, .int ch, .int cp, .ref aCells, .ref aPrices, .ref aFree, .ref aPlaces, .ref aHomes, .ref aManners, .ref aGone, .ref aPaid, .ref aBlinks])), (aCells, .inl (cI, 80, .inl fc))] := hD
      refine lv_aload_n S.1 S.2.1 dX6_reflect_89 rfl (lv_at hl 4 rfl) ?_
      refine lv_aload_n S.1 S.2.1 dX6_reflect_90 rfl (lv_at hl 5 rfl) ?_
      refine lv_iload_n S.1 S.2.1 dX6_reflect_91 rfl (lv_at hl 7 rfl) ?_
      refine lv_iload S.1 S.2.1 dX6_reflect_92 (lv_at hl 0 rfl) ?_
      refine lv_if_eq (tgt := 102) S.1 S.2.1 dX6_reflect_94 (by decide) (fun c_94 => absurd c_94 (by decide)) (fun c_94 => ?_)
      refine lv_iload S.1 S.2.1 dX6_reflect_97 (lv_at hl 3 rfl) ?_
      refine lv_goto (tgt := 104) S.1 S.2.1 dX6_reflect_99 (by decide) ?_
      refine lv_iload S.1 S.2.1 dX6_reflect_104 (lv_at hl 0 rfl) ?_
      refine lv_if_eq (tgt := 113) S.1 S.2.1 dX6_reflect_106 (by decide) (fun c_95 => absurd c_95 (by decide)) (fun c_95 => ?_)
      refine lv_iconst (v := (1)) S.1 S.2.1 dX6_reflect_109 (by decide) ?_
      refine lv_goto (tgt := 114) S.1 S.2.1 dX6_reflect_110 (by decide) ?_
      refine b_av (wr := []) (b_runV (q0 := 0) (ci := 6) (As := [.ref ct, .int v, .int x_2, .int 1]) (s_X6_settle l D cI cZ cC cS sq H.size vw vS vM vF ct aCells v x_2 (1) vN vs2_85 vm2_86 vf2_87 cw ch cp aPrices aFree aPlaces aHomes aManners aGone aPaid aBlinks fc _ (by first | assumption | omega | decide | (rw [show Int32.toInt 0 = 0 from rfl]; omega)) (by first | assumption | omega | decide | (rw [show Int32.toInt 0 = 0 from rfl]; omega)) (by first | assumption | omega | decide | (rw [show Int32.toInt 0 = 0 from rfl]; omega)) (by first | assumption | omega | decide | (rw [show Int32.toInt 0 = 0 from rfl]; omega)) (by first | assumption | omega | decide | (rw [show Int32.toInt 0 = 0 from rfl]; omega)) (by first | assumption | omega | decide | (rw [show Int32.toInt 0 = 0 from rfl]; omega)) (by first | assumption | omega | decide | (rw [show Int32.toInt 0 = 0 from rfl]; omega)) (by first | assumption | omega | decide | (rw [show Int32.toInt 0 = 0 from rfl]; omega)) (by first | assumption | omega | decide | (rw [show Int32.toInt 0 = 0 from rfl]; omega)) (by first | assumption | omega | decide | (rw [show Int32.toInt 0 = 0 from rfl]; omega)) (by first | assumption | omega | decide | (rw [show Int32.toInt 0 = 0 from rfl]; omega)) (by first | assumption | omega | decide | (rw [show Int32.toInt 0 = 0 from rfl]; omega))) S gX6_reflect_X6_settle rfl hdV_X6_settle ⟨Nat.le_of_ble_eq_true rfl, Nat.le_of_ble_eq_true rfl⟩ ⟨Nat.le_of_ble_eq_true rfl, Nat.le_of_ble_eq_true rfl⟩ hK hT hS hA hP hD rfl rfl [0, 1, 2, 3, 4, 5] rfl (by decide) rfl hl.1 rfl (Nat.le_of_ble_eq_true rfl) dX6_reflect_114) hP hD hS hA [0, 1, 2, 3, 4, 5] [] rfl rfl (by decide) (by decide) (fun w_97 H locs hw_98 hP hD hS => ?_)
      obtain ⟨vs2_99, vm2_100, vf2_101, hf_102, hf_103, hf_104, hf_105, hf_106, hf_107, rfl⟩ := hw_98
      have hP : va_P D vwCl [(vw, .inr (6, [.ref vN, .ref vS, .ref vM, .ref vF])), (vS, .inl (cI, 640, .inl vs2_99)), (vM, .inl (cI, 640, .inl vm2_100)), (vF, .inl (cI, 640, .inl vf2_101)), (ct, .inr (1, [.int cw, .int ch, .int cp, .ref aCells, .ref aPrices, .ref aFree, .ref aPlaces, .ref aHomes, .ref aManners, .ref aGone, .ref aPaid, .ref aBlinks])), (aCells, .inl (cI, 80, .inl fc))] H := hP
      have hD : va_D A [(vw, .inr (6, [.ref vN, .ref vS, .ref vM, .ref vF])), (vS, .inl (cI, 640, .inl vs2_99)), (vM, .inl (cI, 640, .inl vm2_100)), (vF, .inl (cI, 640, .inl vf2_101)), (ct, .inr (1, [.int cw, .int ch, .int cp, .ref aCells, .ref aPrices, .ref aFree, .ref aPlaces, .ref aHomes, .ref aManners, .ref aGone, .ref aPaid, .ref aBlinks])), (aCells, .inl (cI, 80, .inl fc))] := hD
      exact b_vret S.1 S.2.1 X.2.1 X.2.2.1 hP hD hS ⟨vs2_99, vm2_100, vf2_101, (by first | assumption | omega | decide | (rw [show Int32.toInt 0 = 0 from rfl]; omega)), (by first | assumption | omega | decide | (rw [show Int32.toInt 0 = 0 from rfl]; omega)), (by first | assumption | omega | decide | (rw [show Int32.toInt 0 = 0 from rfl]; omega)), (by first | exact rf_11 (by assumption) (by assumption) hgc hgb (by assumption) (by assumption) (by assumption) (by assumption) (by assumption) (by assumption) (by assumption) (by assumption) | exact rf_10 (by assumption) (by assumption) hgc hgb (by assumption) (by assumption) (by assumption) (by assumption) (by assumption) (by assumption) (by assumption) (by assumption) (by assumption) | exact rf_01 (by assumption) (by assumption) hgc hgb (by assumption) (by assumption) (by assumption) (by assumption) (by assumption) (by assumption) (by assumption) (by assumption) (by assumption) | exact rf_00 (by assumption) (by assumption) hgc hgb (by assumption) (by assumption) (by assumption) (by assumption) (by assumption) (by assumption) (by assumption) (by assumption) (by assumption) (by assumption)), rfl⟩ dX6_reflect_117
    · have hP : va_P D vwCl [(vw, .inr (6, [.ref vN, .ref vS, .ref vM, .ref vF])), (vS, .inl (cI, 640, .inl vs)), (vM, .inl (cI, 640, .inl vm)), (vF, .inl (cI, 640, .inl vf)), (ct, .inr (1, [.int cw, .int ch, .int cp, .ref aCells, .ref aPrices, .ref aFree, .ref aPlaces, .ref aHomes, .ref aManners, .ref aGone, .ref aPaid, .ref aBlinks])), (aCells, .inl (cI, 80, .inl fc))] H := hP
      have hD : va_D A [(vw, .inr (6, [.ref vN, .ref vS, .ref vM, .ref vF])), (vS, .inl (cI, 640, .inl vs)), (vM, .inl (cI, 640, .inl vm)), (vF, .inl (cI, 640, .inl vf)), (ct, .inr (1, [.int cw, .int ch, .int cp, .ref aCells, .ref aPrices, .ref aFree, .ref aPlaces, .ref aHomes, .ref aManners, .ref aGone, .ref aPaid, .ref aBlinks])), (aCells, .inl (cI, 80, .inl fc))] := hD
      refine lv_istore (lv' := [(7, .int 0), (6, .int 0), (5, .int x_4), (4, .int x_2), (0, .ref vw), (1, .ref ct), (2, .int u), (3, .int v)]) S.1 S.2.1 dX6_reflect_30 hl (by decide) rfl (fun ls hl => ?_)
      refine lv_iload S.1 S.2.1 dX6_reflect_32 (lv_at hl 1 rfl) ?_
      refine lv_if_eq (tgt := 61) S.1 S.2.1 dX6_reflect_34 (by decide) (fun c_108 => ?_) (fun c_108 => absurd c_108 (by decide))
      refine lv_aload_n S.1 S.2.1 dX6_reflect_61 rfl (lv_at hl 4 rfl) ?_
      refine lv_aload_n S.1 S.2.1 dX6_reflect_62 rfl (lv_at hl 5 rfl) ?_
      refine lv_iload_n S.1 S.2.1 dX6_reflect_63 rfl (lv_at hl 6 rfl) ?_
      refine lv_iload S.1 S.2.1 dX6_reflect_64 (lv_at hl 1 rfl) ?_
      refine lv_if_eq (tgt := 74) S.1 S.2.1 dX6_reflect_66 (by decide) (fun c_109 => ?_) (fun c_109 => absurd c_109 (by decide))
      refine lv_iload S.1 S.2.1 dX6_reflect_74 (lv_at hl 3 rfl) ?_
      refine lv_iload S.1 S.2.1 dX6_reflect_76 (lv_at hl 1 rfl) ?_
      refine lv_if_eq (tgt := 85) S.1 S.2.1 dX6_reflect_78 (by decide) (fun c_110 => ?_) (fun c_110 => absurd c_110 (by decide))
      refine lv_iconst (v := (0)) S.1 S.2.1 dX6_reflect_85 (by decide) ?_
      refine b_av (wr := []) (b_runV (q0 := 0) (ci := 6) (As := [.ref ct, .int u, .int x_2, .int 0]) (s_X6_settle l D cI cZ cC cS sq H.size vw vS vM vF ct aCells u x_2 (0) vN vs vm vf cw ch cp aPrices aFree aPlaces aHomes aManners aGone aPaid aBlinks fc _ (by first | assumption | omega | decide | (rw [show Int32.toInt 0 = 0 from rfl]; omega)) (by first | assumption | omega | decide | (rw [show Int32.toInt 0 = 0 from rfl]; omega)) (by first | assumption | omega | decide | (rw [show Int32.toInt 0 = 0 from rfl]; omega)) (by first | assumption | omega | decide | (rw [show Int32.toInt 0 = 0 from rfl]; omega)) (by first | assumption | omega | decide | (rw [show Int32.toInt 0 = 0 from rfl]; omega)) (by first | assumption | omega | decide | (rw [show Int32.toInt 0 = 0 from rfl]; omega)) (by first | assumption | omega | decide | (rw [show Int32.toInt 0 = 0 from rfl]; omega)) (by first | assumption | omega | decide | (rw [show Int32.toInt 0 = 0 from rfl]; omega)) (by first | assumption | omega | decide | (rw [show Int32.toInt 0 = 0 from rfl]; omega)) (by first | assumption | omega | decide | (rw [show Int32.toInt 0 = 0 from rfl]; omega)) (by first | assumption | omega | decide | (rw [show Int32.toInt 0 = 0 from rfl]; omega)) (by first | assumption | omega | decide | (rw [show Int32.toInt 0 = 0 from rfl]; omega))) S gX6_reflect_X6_settle rfl hdV_X6_settle ⟨Nat.le_of_ble_eq_true rfl, Nat.le_of_ble_eq_true rfl⟩ ⟨Nat.le_of_ble_eq_true rfl, Nat.le_of_ble_eq_true rfl⟩ hK hT hS hA hP hD rfl rfl [0, 1, 2, 3, 4, 5] rfl (by decide) rfl hl.1 rfl (Nat.le_of_ble_eq_true rfl) dX6_reflect_86) hP hD hS hA [0, 1, 2, 3, 4, 5] [] rfl rfl (by decide) (by decide) (fun w_112 H locs hw_113 hP hD hS => ?_)
      obtain ⟨vs2_114, vm2_115, vf2_116, hf_117, hf_118, hf_119, hf_120, hf_121, hf_122, rfl⟩ := hw_113
      have hP : va_P D vwCl [(vw, .inr (6, [.ref vN, .ref vS, .ref vM, .ref vF])), (vS, .inl (cI, 640, .inl vs2_114)), (vM, .inl (cI, 640, .inl vm2_115)), (vF, .inl (cI, 640, .inl vf2_116)), (ct, .inr (1, [.int cw, .int ch, .int cp, .ref aCells, .ref aPrices, .ref aFree, .ref aPlaces, .ref aHomes, .ref aManners, .ref aGone, .ref aPaid, .ref aBlinks])), (aCells, .inl (cI, 80, .inl fc))] H := hP
      have hD : va_D A [(vw, .inr (6, [.ref vN, .ref vS, .ref vM, .ref vF])), (vS, .inl (cI, 640, .inl vs2_114)), (vM, .inl (cI, 640, .inl vm2_115)), (vF, .inl (cI, 640, .inl vf2_116)), (ct, .inr (1, [.int cw, .int ch, .int cp, .ref aCells, .ref aPrices, .ref aFree, .ref aPlaces, .ref aHomes, .ref aManners, .ref aGone, .ref aPaid, .ref aBlinks])), (aCells, .inl (cI, 80, .inl fc))] := hD
      refine lv_aload_n S.1 S.2.1 dX6_reflect_89 rfl (lv_at hl 4 rfl) ?_
      refine lv_aload_n S.1 S.2.1 dX6_reflect_90 rfl (lv_at hl 5 rfl) ?_
      refine lv_iload_n S.1 S.2.1 dX6_reflect_91 rfl (lv_at hl 7 rfl) ?_
      refine lv_iload S.1 S.2.1 dX6_reflect_92 (lv_at hl 0 rfl) ?_
      refine lv_if_eq (tgt := 102) S.1 S.2.1 dX6_reflect_94 (by decide) (fun c_123 => ?_) (fun c_123 => absurd c_123 (by decide))
      refine lv_iload S.1 S.2.1 dX6_reflect_102 (lv_at hl 2 rfl) ?_
      refine lv_iload S.1 S.2.1 dX6_reflect_104 (lv_at hl 0 rfl) ?_
      refine lv_if_eq (tgt := 113) S.1 S.2.1 dX6_reflect_106 (by decide) (fun c_124 => ?_) (fun c_124 => absurd c_124 (by decide))
      refine lv_iconst (v := (0)) S.1 S.2.1 dX6_reflect_113 (by decide) ?_
      refine b_av (wr := []) (b_runV (q0 := 0) (ci := 6) (As := [.ref ct, .int v, .int x_4, .int 0]) (s_X6_settle l D cI cZ cC cS sq H.size vw vS vM vF ct aCells v x_4 (0) vN vs2_114 vm2_115 vf2_116 cw ch cp aPrices aFree aPlaces aHomes aManners aGone aPaid aBlinks fc _ (by first | assumption | omega | decide | (rw [show Int32.toInt 0 = 0 from rfl]; omega)) (by first | assumption | omega | decide | (rw [show Int32.toInt 0 = 0 from rfl]; omega)) (by first | assumption | omega | decide | (rw [show Int32.toInt 0 = 0 from rfl]; omega)) (by first | assumption | omega | decide | (rw [show Int32.toInt 0 = 0 from rfl]; omega)) (by first | assumption | omega | decide | (rw [show Int32.toInt 0 = 0 from rfl]; omega)) (by first | assumption | omega | decide | (rw [show Int32.toInt 0 = 0 from rfl]; omega)) (by first | assumption | omega | decide | (rw [show Int32.toInt 0 = 0 from rfl]; omega)) (by first | assumption | omega | decide | (rw [show Int32.toInt 0 = 0 from rfl]; omega)) (by first | assumption | omega | decide | (rw [show Int32.toInt 0 = 0 from rfl]; omega)) (by first | assumption | omega | decide | (rw [show Int32.toInt 0 = 0 from rfl]; omega)) (by first | assumption | omega | decide | (rw [show Int32.toInt 0 = 0 from rfl]; omega)) (by first | assumption | omega | decide | (rw [show Int32.toInt 0 = 0 from rfl]; omega))) S gX6_reflect_X6_settle rfl hdV_X6_settle ⟨Nat.le_of_ble_eq_true rfl, Nat.le_of_ble_eq_true rfl⟩ ⟨Nat.le_of_ble_eq_true rfl, Nat.le_of_ble_eq_true rfl⟩ hK hT hS hA hP hD rfl rfl [0, 1, 2, 3, 4, 5] rfl (by decide) rfl hl.1 rfl (Nat.le_of_ble_eq_true rfl) dX6_reflect_114) hP hD hS hA [0, 1, 2, 3, 4, 5] [] rfl rfl (by decide) (by decide) (fun w_126 H locs hw_127 hP hD hS => ?_)
      obtain ⟨vs2_128, vm2_129, vf2_130, hf_131, hf_132, hf_133, hf_134, hf_135, hf_136, rfl⟩ := hw_127
      have hP : va_P D vwCl [(vw, .inr (6, [.ref vN, .ref vS, .ref vM, .ref vF])), (vS, .inl (cI, 640, .inl vs2_128)), (vM, .inl (cI, 640, .inl vm2_129)), (vF, .inl (cI, 640, .inl vf2_130)), (ct, .inr (1, [.int cw, .int ch, .int cp, .ref aCells, .ref aPrices, .ref aFree, .ref aPlaces, .ref aHomes, .ref aManners, .ref aGone, .ref aPaid, .ref aBlinks])), (aCells, .inl (cI, 80, .inl fc))] H := hP
      have hD : va_D A [(vw, .inr (6, [.ref vN, .ref vS, .ref vM, .ref vF])), (vS, .inl (cI, 640, .inl vs2_128)), (vM, .inl (cI, 640, .inl vm2_129)), (vF, .inl (cI, 640, .inl vf2_130)), (ct, .inr (1, [.int cw, .int ch, .int cp, .ref aCells, .ref aPrices, .ref aFree, .ref aPlaces, .ref aHomes, .ref aManners, .ref aGone, .ref aPaid, .ref aBlinks])), (aCells, .inl (cI, 80, .inl fc))] := hD
      exact b_vret S.1 S.2.1 X.2.1 X.2.2.1 hP hD hS ⟨vs2_128, vm2_129, vf2_130, (by first | assumption | omega | decide | (rw [show Int32.toInt 0 = 0 from rfl]; omega)), (by first | assumption | omega | decide | (rw [show Int32.toInt 0 = 0 from rfl]; omega)), (by first | assumption | omega | decide | (rw [show Int32.toInt 0 = 0 from rfl]; omega)), (by first | exact rf_11 (by assumption) (by assumption) hgc hgb (by assumption) (by assumption) (by assumption) (by assumption) (by assumption) (by assumption) (by assumption) (by assumption) | exact rf_10 (by assumption) (by assumption) hgc hgb (by assumption) (by assumption) (by assumption) (by assumption) (by assumption) (by assumption) (by assumption) (by assumption) (by assumption) | exact rf_01 (by assumption) (by assumption) hgc hgb (by assumption) (by assumption) (by assumption) (by assumption) (by assumption) (by assumption) (by assumption) (by assumption) (by assumption) | exact rf_00 (by assumption) (by assumption) hgc hgb (by assumption) (by assumption) (by assumption) (by assumption) (by assumption) (by assumption) (by assumption) (by assumption) (by assumption) (by assumption)), rfl⟩ dX6_reflect_117
set_option maxHeartbeats 4000000 in
set_option maxRecDepth 100000 in
theorem lp_drawWay {p : Program} (l : Launch) {e : Env} {s : State} {m : MethodId} {below : List Frame} {meth : Method} {c : Code} (D : va_G) (cI cZ cC cS : ClassId) (sq : Nat → Nat) (vw : Nat) (vN : Nat) (vS : Nat) (ct : Nat) (aCells : Nat) (wy : Int32) (vM : Nat) (vF : Nat) (vn : Nat → Int32) (vs : Nat → Int32) (cw : Int32) (ch : Int32) (cp : Int32) (aPrices : Nat) (aFree : Nat) (aPlaces : Nat) (aHomes : Nat) (aManners : Nat) (aGone : Nat) (aPaid : Nat) (aBlinks : Nat) (fc : Nat → Int32) (gg : Nat → Int) (hrg_vn : rng vn 640 (-1) (79)) (hrg_vs : rng vs 640 (-1) (79)) (hrg_fc : rng fc 80 (-1) (8)) (hw : 0 ≤ cw.toInt ∧ cw.toInt ≤ 10) (hh : 0 ≤ ch.toInt ∧ ch.toInt ≤ 8) (hy : 0 ≤ wy.toInt ∧ wy.toInt < 8) (hgc : GC gg cw.toInt ch.toInt fc) (hgb : gB gg) (fl_ : Int32) (hfl : (fl_.toInt = 0 ∧ (wy.toInt ≤ 1 ∨ 6 ≤ wy.toInt)) ∨ (fl_.toInt = 1 ∧ 2 ≤ wy.toInt ∧ wy.toInt ≤ 5)) {A : Nat → Prop} (X : bX p s m meth c cX6_drawWay 8 wsX6_drawWay yX6_drawWay none [.ref vw, .ref ct, .int wy]) (hK : kW D (tyW cI cZ cC cS) sq s) (hT : sT sq A s s.heap) (hA : ∀ q, s.heap.size ≤ q → A q) (K : ∀ (i : Int32) (vn1 : Nat → Int32) (vs1 : Nat → Int32), (rng vn1 640 (-1) (79)) → (rng vs1 640 (-1) (79)) → (rng fc 80 (-1) (8)) → (0 ≤ i.toInt ∧ i.toInt ≤ 80) → (dwN gg wy.toInt (dn fl_.toInt i.toInt) vn vs vn1 vs1) → (80 ≤ i.toInt) → ∀ (H : Heap) (locs : List Loc) (ls : Array Slot), va_P D vwCl [(vw, .inr (6, [.ref vN, .ref vS, .ref vM, .ref vF])), (vN, .inl (cI, 640, .inl vn1)), (vS, .inl (cI, 640, .inl vs1)), (ct, .inr (1, [.int cw, .int ch, .int cp, .ref aCells, .ref aPrices, .ref aFree, .ref aPlaces, .ref aHomes, .ref aManners, .ref aGone, .ref aPaid, .ref aBlinks])), (aCells, .inl (cI, 80, .inl fc))] H → va_D A [(vw, .inr (6, [.ref vN, .ref vS, .ref vM, .ref vF])), (vN, .inl (cI, 640, .inl vn1)), (vS, .inl (cI, 640, .inl vs1)), (ct, .inr (1, [.int cw, .int ch, .int cp, .ref aCells, .ref aPrices, .ref aFree, .ref aPlaces, .ref aHomes, .ref aManners, .ref aGone, .ref aPaid, .ref aBlinks])), (aCells, .inl (cI, 80, .inl fc))] → va_S A s.heap H locs → lv_has ls 8 [(4, .int i), (3, .int fl_), (0, .ref vw), (1, .ref ct), (2, .int wy)] → W p l e (rmW 2 80 0 0) s m ([.ref vw, .ref ct, .int wy] : List Value).toArray below meth c H locs 0 0 (MQ below (va_Qv (fun w => (∃ (vn2 : Nat → Int32), ∃ (vs2 : Nat → Int32), (rng vn2 640 (-1) (79)) ∧ (rng vs2 640 (-1) (79)) ∧ (dwN gg wy.toInt (fun _ => True) vn vs vn2 vs2) ∧ w = [(vw, .inr (6, [.ref vN, .ref vS, .ref vM, .ref vF])), (vN, .inl (cI, 640, .inl vn2)), (vS, .inl (cI, 640, .inl vs2)), (ct, .inr (1, [.int cw, .int ch, .int cp, .ref aCells, .ref aPrices, .ref aFree, .ref aPlaces, .ref aHomes, .ref aManners, .ref aGone, .ref aPaid, .ref aBlinks])), (aCells, .inl (cI, 80, .inl fc))])) (wD D A) A) ([.ref vw, .ref ct, .int wy] : List Value).toArray s 0 0 A) (F0 m 129 ls [])) : ∀ (mN : Nat) (i : Int32) (vn1 : Nat → Int32) (vs1 : Nat → Int32), (rng vn1 640 (-1) (79)) → (rng vs1 640 (-1) (79)) → (rng fc 80 (-1) (8)) → (0 ≤ i.toInt ∧ i.toInt ≤ 80) → (dwN gg wy.toInt (dn fl_.toInt i.toInt) vn vs vn1 vs1) → ((80 - i.toInt).toNat < mN) → ∀ (H : Heap) (locs : List Loc) (ls : Array Slot), va_P D vwCl [(vw, .inr (6, [.ref vN, .ref vS, .ref vM, .ref vF])), (vN, .inl (cI, 640, .inl vn1)), (vS, .inl (cI, 640, .inl vs1)), (ct, .inr (1, [.int cw, .int ch, .int cp, .ref aCells, .ref aPrices, .ref aFree, .ref aPlaces, .ref aHomes, .ref aManners, .ref aGone, .ref aPaid, .ref aBlinks])), (aCells, .inl (cI, 80, .inl fc))] H → va_D A [(vw, .inr (6, [.ref vN, .ref vS, .ref vM, .ref vF])), (vN, .inl (cI, 640, .inl vn1)), (vS, .inl (cI, 640, .inl vs1)), (ct, .inr (1, [.int cw, .int ch, .int cp, .ref aCells, .ref aPrices, .ref aFree, .ref aPlaces, .ref aHomes, .ref aManners, .ref aGone, .ref aPaid, .ref aBlinks])), (aCells, .inl (cI, 80, .inl fc))] → va_S A s.heap H locs → lv_has ls 8 [(4, .int i), (3, .int fl_), (0, .ref vw), (1, .ref ct), (2, .int wy)] → W p l e (rmW 2 80 0 0) s m ([.ref vw, .ref ct, .int wy] : List Value).toArray below meth c H locs 0 0 (MQ below (va_Qv (fun w => (∃ (vn2 : Nat → Int32), ∃ (vs2 : Nat → Int32), (rng vn2 640 (-1) (79)) ∧ (rng vs2 640 (-1) (79)) ∧ (dwN gg wy.toInt (fun _ => True) vn vs vn2 vs2) ∧ w = [(vw, .inr (6, [.ref vN, .ref vS, .ref vM, .ref vF])), (vN, .inl (cI, 640, .inl vn2)), (vS, .inl (cI, 640, .inl vs2)), (ct, .inr (1, [.int cw, .int ch, .int cp, .ref aCells, .ref aPrices, .ref aFree, .ref aPlaces, .ref aHomes, .ref aManners, .ref aGone, .ref aPaid, .ref aBlinks])), (aCells, .inl (cI, 80, .inl fc))])) (wD D A) A) ([.ref vw, .ref ct, .int wy] : List Value).toArray s 0 0 A) (F0 m 26 ls []) := by
  have S : CallFix p m c cX6_drawWay 8 s ([.ref vw, .ref ct, .int wy] : List Value).toArray wsX6_drawWay RX6 := X.1
  have iX6 := jX6_drawWay_X6
  intro mN
  induction mN with
  | zero => intro i vn1 vs1 hrg_vn1 hrg_vs1 hrg_fc hi hdw hm; exact absurd hm (Nat.not_lt_zero _)
  | succ mN ih =>
    intro i vn1 vs1 hrg_vn1 hrg_vs1 hrg_fc hi hdw hm H locs ls hP hD hS hl
    refine lv_iload S.1 S.2.1 dX6_drawWay_26 (lv_at hl 0 rfl) ?_
    refine lv_bipush (v := (80)) S.1 S.2.1 dX6_drawWay_28 (by decide) ?_
    refine lv_icmp_ge (tgt := 129) S.1 S.2.1 dX6_drawWay_30 (by decide) (fun c_101 => ?_) (fun c_101 => ?_)
    · rw [le2 (a := 80) (b := i) (A := 80) (B := i.toInt) rfl rfl] at c_101
      exact K i vn1 vs1 (by first | assumption | omega | decide | (rw [show Int32.toInt 0 = 0 from rfl]; omega)) (by first | assumption | omega | decide | (rw [show Int32.toInt 0 = 0 from rfl]; omega)) (by first | assumption | omega | decide | (rw [show Int32.toInt 0 = 0 from rfl]; omega)) (by first | assumption | omega | decide | (rw [show Int32.toInt 0 = 0 from rfl]; omega)) (by first | assumption | exact dw_o hgc hgb hy (by assumption) (by assumption) hdw (by assumption) (by assumption) (by assumption) (by omega) (by omega) (by omega) (by omega) (by omega) | exact dw_s hgc hgb hy (by assumption) (by assumption) (by assumption) hdw (by assumption) (by assumption) (by omega) (by omega) (by omega) (by omega) (by omega)) (by first | assumption | omega | decide | (rw [show Int32.toInt 0 = 0 from rfl]; omega)) H _ ls hP hD hS (lv_sub hl [0, 1, 2, 3, 4] rfl)
    · rw [le2 (a := 80) (b := i) (A := 80) (B := i.toInt) rfl rfl] at c_101
      refine lv_iload_n S.1 S.2.1 dX6_drawWay_33 rfl (lv_at hl 1 rfl) ?_
      refine lv_if_eq (tgt := 45) S.1 S.2.1 dX6_drawWay_34 (by decide) (fun c_102 => ?_) (fun c_102 => ?_)
      · rw [eq2 (a := fl_) (b := 0) (A := fl_.toInt) (B := 0) rfl rfl] at c_102
        refine lv_iload S.1 S.2.1 dX6_drawWay_45 (lv_at hl 0 rfl) ?_
        refine lv_istore (lv' := [(5, .int i), (4, .int i), (3, .int fl_), (0, .ref vw), (1, .ref ct), (2, .int wy)]) S.1 S.2.1 dX6_drawWay_47 hl (by decide) rfl (fun ls hl => ?_)
        refine lv_aload_n S.1 S.2.1 dX6_drawWay_49 rfl (lv_at hl 4 rfl) ?_
        refine lv_iload S.1 S.2.1 dX6_drawWay_50 (lv_at hl 0 rfl) ?_
        refine lv_iload_n S.1 S.2.1 dX6_drawWay_52 rfl (lv_at hl 5 rfl) ?_
        refine b_ai (wr := [(vw, .inr (6, [.ref vN, .ref vS, .ref vM, .ref vF])), (vN, .inl (cI, 640, .inl vn1)), (vS, .inl (cI, 640, .inl vs1)), (aCells, .inl (cI, 80, .inl fc))]) (b_runV (q0 := 3) (ci := 1) (As := [.int i, .int wy]) (s_X1_beside l D cI cZ cC cS sq H.size ct i wy cw ch cp aCells aPrices aFree aPlaces aHomes aManners aGone aPaid aBlinks (by first | assumption | omega | decide | (rw [show Int32.toInt 0 = 0 from rfl]; omega)) (by first | assumption | omega | decide | (rw [show Int32.toInt 0 = 0 from rfl]; omega)) (by first | assumption | omega | decide | (rw [show Int32.toInt 0 = 0 from rfl]; omega)) (by first | assumption | omega | decide | (rw [show Int32.toInt 0 = 0 from rfl]; omega))) S gX6_drawWay_X1_beside rfl hdV_X1_beside ⟨Nat.le_of_ble_eq_true rfl, Nat.le_of_ble_eq_true rfl⟩ ⟨Nat.le_of_ble_eq_true rfl, Nat.le_of_ble_eq_true rfl⟩ hK hT hS hA hP hD rfl rfl [3] rfl (by decide) rfl hl.1 rfl (Nat.le_of_ble_eq_true rfl) dX6_drawWay_53) hP hD hS hA [3] [0, 1, 2, 4] rfl rfl (by decide) (by decide) (fun r_103 w_104 H locs hw_105 hP hD hS => ?_)
        obtain ⟨hf_106, hf_107, rfl⟩ := hw_105
        have hP : va_P D vwCl [(vw, .inr (6, [.ref vN, .ref vS, .ref vM, .ref vF])), (vN, .inl (cI, 640, .inl vn1)), (vS, .inl (cI, 640, .inl vs1)), (aCells, .inl (cI, 80, .inl fc)), (ct, .inr (1, [.int cw, .int ch, .int cp, .ref aCells, .ref aPrices, .ref aFree, .ref aPlaces, .ref aHomes, .ref aManners, .ref aGone, .ref aPaid, .ref aBlinks]))] H := hP
        have hD : va_D A [(vw, .inr (6, [.ref vN, .ref vS, .ref vM, .ref vF])), (vN, .inl (cI, 640, .inl vn1)), (vS, .inl (cI, 640, .inl vs1)), (aCells, .inl (cI, 80, .inl fc)), (ct, .inr (1, [.int cw, .int ch, .int cp, .ref aCells, .ref aPrices, .ref aFree, .ref aPlaces, .ref aHomes, .ref aManners, .ref aGone, .ref aPaid, .ref aBlinks]))] := hD
        refine lv_istore (lv' := [(6, .int r_103), (5, .int i), (4, .int i), (3, .int fl_), (0, .ref vw), (1, .ref ct), (2, .int wy)]) S.1 S.2.1 dX6_drawWay_56 hl (by decide) rfl (fun ls hl => ?_)
        refine lv_aload_n S.1 S.2.1 dX6_drawWay_58 rfl (lv_at hl 5 rfl) ?_
        refine lv_iload S.1 S.2.1 dX6_drawWay_59 (lv_at hl 0 rfl) ?_
        refine b_ai (wr := [(vw, .inr (6, [.ref vN, .ref vS, .ref vM, .ref vF])), (vN, .inl (cI, 640, .inl vn1)), (vS, .inl (cI, 640, .inl vs1))]) (b_runV (q0 := 4) (ci := 1) (As := [.int r_103]) (s_X1_isOpen l D cI cZ cC cS sq H.size ct aCells r_103 cw ch cp aPrices aFree aPlaces aHomes aManners aGone aPaid aBlinks fc (by first | assumption | omega | decide | (rw [show Int32.toInt 0 = 0 from rfl]; omega)) (by first | assumption | omega | decide | (rw [show Int32.toInt 0 = 0 from rfl]; omega)) (by first | assumption | omega | decide | (rw [show Int32.toInt 0 = 0 from rfl]; omega))) S gX6_drawWay_X1_isOpen rfl hdV_X1_isOpen ⟨Nat.le_of_ble_eq_true rfl, Nat.le_of_ble_eq_true rfl⟩ ⟨Nat.le_of_ble_eq_true rfl, Nat.le_of_ble_eq_true rfl⟩ hK hT hS hA hP hD rfl rfl [4, 3] rfl (by decide) rfl hl.1 rfl (Nat.le_of_ble_eq_true rfl) dX6_drawWay_61) hP hD hS hA [4, 3] [0, 1, 2] rfl rfl (by decide) (by decide) (fun r_108 w_109 H locs hw_110 hP hD hS => ?_)
        rcases hw_110 with ⟨hf_111, hf_112, rfl, rfl⟩ | ⟨hf_113, rfl, rfl⟩
        · have hP : va_P D vwCl [(vw, .inr (6, [.ref vN, .ref vS, .ref vM, .ref vF])), (vN, .inl (cI, 640, .inl vn1)), (vS, .inl (cI, 640, .inl vs1)), (ct, .inr (1, [.int cw, .int ch, .int cp, .ref aCells, .ref aPrices, .ref aFree, .ref aPlaces, .ref aHomes, .ref aManners, .ref aGone, .ref aPaid, .ref aBlinks])), (aCells, .inl (cI, 80, .inl fc))] H := hP
          have hD : va_D A [(vw, .inr (6, [.ref vN, .ref vS, .ref vM, .ref vF])), (vN, .inl (cI, 640, .inl vn1)), (vS, .inl (cI, 640, .inl vs1)), (ct, .inr (1, [.int cw, .int ch, .int cp, .ref aCells, .ref aPrices, .ref aFree, .ref aPlaces, .ref aHomes, .ref aManners, .ref aGone, .ref aPaid, .ref aBlinks])), (aCells, .inl (cI, 80, .inl fc))] := hD
          refine lv_istore (lv' := [(7, .int 1), (6, .int r_103), (5, .int i), (4, .int i), (3, .int fl_), (0, .ref vw), (1, .ref ct), (2, .int wy)]) S.1 S.2.1 dX6_drawWay_64 hl (by decide) rfl (fun ls hl => ?_)
          refine lv_aload_n S.1 S.2.1 dX6_drawWay_66 rfl (lv_at hl 5 rfl) ?_
          refine b_get (v := .ref vN) S iX6 hK hP 0 rfl rfl 0 (by decide) (by decide +kernel) rfl dX6_drawWay_67 ?_
          refine lv_iload S.1 S.2.1 dX6_drawWay_70 (lv_at hl 2 rfl) ?_
          refine lv_bipush (v := (8)) S.1 S.2.1 dX6_drawWay_72 (by decide) ?_
          refine lv_imul S.1 S.2.1 dX6_drawWay_74 ?_
          refine lv_topi (fun x_114 ex_114 => ?_)
          have tx_114 : x_114.toInt = i.toInt * 8 := mulI (A := i.toInt) (B := 8) ex_114 rfl rfl (by omega) (by omega)
          refine lv_iload_n S.1 S.2.1 dX6_drawWay_75 rfl (lv_at hl 7 rfl) ?_
          refine lv_iadd S.1 S.2.1 dX6_drawWay_76 ?_
          refine lv_topi (fun x_115 ex_115 => ?_)
          have tx_115 : x_115.toInt = x_114.toInt + (wy.toInt) := addI (A := x_114.toInt) (B := wy.toInt) ex_115 rfl rfl (by omega) (by omega)
          refine lv_iload S.1 S.2.1 dX6_drawWay_77 (lv_at hl 0 rfl) ?_
          refine lv_if_eq (tgt := 87) S.1 S.2.1 dX6_drawWay_79 (by decide) (fun c_116 => absurd c_116 (by decide)) (fun c_116 => ?_)
          refine lv_iload S.1 S.2.1 dX6_drawWay_82 (lv_at hl 1 rfl) ?_
          refine lv_goto (tgt := 88) S.1 S.2.1 dX6_drawWay_84 (by decide) ?_
          refine va_iast S.1 S.2.1 hK.1 hP hD hS 1 0 rfl rfl (in_of (n := 640) (by omega) (by omega)) dX6_drawWay_88 (fun H locs hP hD hS => ?_)
          obtain ⟨f_117, hf_117, rf_117⟩ : ∃ g, (upd vn1 x_115.toNatClampNeg (r_103)) = g ∧ rng g 640 (-1) (79) := ⟨_, rfl, rng_upd (by assumption) (show (-1 : Int) ≤ (r_103 : Int32).toInt ∧ (r_103 : Int32).toInt ≤ 79 from by omega)⟩
          have hP : va_P D vwCl [(vw, .inr (6, [.ref vN, .ref vS, .ref vM, .ref vF])), (vN, .inl (cI, 640, .inl (upd vn1 x_115.toNatClampNeg (r_103)))), (vS, .inl (cI, 640, .inl vs1)), (ct, .inr (1, [.int cw, .int ch, .int cp, .ref aCells, .ref aPrices, .ref aFree, .ref aPlaces, .ref aHomes, .ref aManners, .ref aGone, .ref aPaid, .ref aBlinks])), (aCells, .inl (cI, 80, .inl fc))] H := hP
          have hD : va_D A [(vw, .inr (6, [.ref vN, .ref vS, .ref vM, .ref vF])), (vN, .inl (cI, 640, .inl (upd vn1 x_115.toNatClampNeg (r_103)))), (vS, .inl (cI, 640, .inl vs1)), (ct, .inr (1, [.int cw, .int ch, .int cp, .ref aCells, .ref aPrices, .ref aFree, .ref aPlaces, .ref aHomes, .ref aManners, .ref aGone, .ref aPaid, .ref aBlinks])), (aCells, .inl (cI, 80, .inl fc))] := hD
          rw [hf_117] at hP hD
          refine lv_aload_n S.1 S.2.1 dX6_drawWay_89 rfl (lv_at hl 5 rfl) ?_
          refine b_get (v := .ref vS) S iX6 hK hP 0 rfl rfl 1 (by decide) (by decide +kernel) rfl dX6_drawWay_90 ?_
          refine lv_iload S.1 S.2.1 dX6_drawWay_93 (lv_at hl 2 rfl) ?_
          refine lv_bipush (v := (8)) S.1 S.2.1 dX6_drawWay_95 (by decide) ?_
          refine lv_imul S.1 S.2.1 dX6_drawWay_97 ?_
          refine lv_topi (fun x_118 ex_118 => ?_)
          have tx_118 : x_118.toInt = i.toInt * 8 := mulI (A := i.toInt) (B := 8) ex_118 rfl rfl (by omega) (by omega)
          refine lv_iload_n S.1 S.2.1 dX6_drawWay_98 rfl (lv_at hl 7 rfl) ?_
          refine lv_iadd S.1 S.2.1 dX6_drawWay_99 ?_
          refine lv_topi (fun x_119 ex_119 => ?_)
          have tx_119 : x_119.toInt = x_118.toInt + (wy.toInt) := addI (A := x_118.toInt) (B := wy.toInt) ex_119 rfl rfl (by omega) (by omega)
          refine lv_iload S.1 S.2.1 dX6_drawWay_100 (lv_at hl 0 rfl) ?_
          refine lv_if_eq (tgt := 120) S.1 S.2.1 dX6_drawWay_102 (by decide) (fun c_120 => absurd c_120 (by decide)) (fun c_120 => ?_)
          refine lv_aload_n S.1 S.2.1 dX6_drawWay_105 rfl (lv_at hl 5 rfl) ?_
          refine b_get (v := .ref vS) S iX6 hK hP 0 rfl rfl 1 (by decide) (by decide +kernel) rfl dX6_drawWay_106 ?_
          refine lv_iload S.1 S.2.1 dX6_drawWay_109 (lv_at hl 1 rfl) ?_
          refine lv_bipush (v := (8)) S.1 S.2.1 dX6_drawWay_111 (by decide) ?_
          refine lv_imul S.1 S.2.1 dX6_drawWay_113 ?_
          refine lv_topi (fun x_121 ex_121 => ?_)
          have tx_121 : x_121.toInt = r_103.toInt * 8 := mulI (A := r_103.toInt) (B := 8) ex_121 rfl rfl (by omega) (by omega)
          refine lv_iload_n S.1 S.2.1 dX6_drawWay_114 rfl (lv_at hl 7 rfl) ?_
          refine lv_iadd S.1 S.2.1 dX6_drawWay_115 ?_
          refine lv_topi (fun x_122 ex_122 => ?_)
          have tx_122 : x_122.toInt = x_121.toInt + (wy.toInt) := addI (A := x_121.toInt) (B := wy.toInt) ex_122 rfl rfl (by omega) (by omega)
          have hin_123 : vp_in x_122 640 := (in_of (n := 640) (by omega) (by omega))
          refine va_iald S.1 S.2.1 hK.1 hP 2 0 rfl rfl hin_123 dX6_drawWay_116 ?_
          refine lv_topi (fun x_124 ex_124 => ?_)
          have tx_124 := rng_get (x := x_124) (show rng vs1 640 (-1) (79) by assumption) hin_123 ex_124
          have gsx_124 := dw_get (be := r_103.toInt) hdw (by omega) (by have mo := nb_mono (w := cw.toInt) (h := ch.toInt) (a := i.toInt) (y := wy.toInt) (by omega) (by omega) (by omega) hy; omega) hy (by omega) ex_124
          refine lv_goto (tgt := 122) S.1 S.2.1 dX6_drawWay_117 (by decide) ?_
          refine va_iast S.1 S.2.1 hK.1 hP hD hS 2 0 rfl rfl (in_of (n := 640) (by omega) (by omega)) dX6_drawWay_122 (fun H locs hP hD hS => ?_)
          obtain ⟨f_125, hf_125, rf_125⟩ : ∃ g, (upd vs1 x_119.toNatClampNeg (x_124)) = g ∧ rng g 640 (-1) (79) := ⟨_, rfl, rng_upd (by assumption) (show (-1 : Int) ≤ (x_124 : Int32).toInt ∧ (x_124 : Int32).toInt ≤ 79 from by omega)⟩
          have hP : va_P D vwCl [(vw, .inr (6, [.ref vN, .ref vS, .ref vM, .ref vF])), (vN, .inl (cI, 640, .inl f_117)), (vS, .inl (cI, 640, .inl (upd vs1 x_119.toNatClampNeg (x_124)))), (ct, .inr (1, [.int cw, .int ch, .int cp, .ref aCells, .ref aPrices, .ref aFree, .ref aPlaces, .ref aHomes, .ref aManners, .ref aGone, .ref aPaid, .ref aBlinks])), (aCells, .inl (cI, 80, .inl fc))] H := hP
          have hD : va_D A [(vw, .inr (6, [.ref vN, .ref vS, .ref vM, .ref vF])), (vN, .inl (cI, 640, .inl f_117)), (vS, .inl (cI, 640, .inl (upd vs1 x_119.toNatClampNeg (x_124)))), (ct, .inr (1, [.int cw, .int ch, .int cp, .ref aCells, .ref aPrices, .ref aFree, .ref aPlaces, .ref aHomes, .ref aManners, .ref aGone, .ref aPaid, .ref aBlinks])), (aCells, .inl (cI, 80, .inl fc))] := hD
          rw [hf_125] at hP hD
          obtain ⟨x_126, ex_126⟩ : ∃ y : Int32, y = i + Int32.ofInt (1) := ⟨_, rfl⟩
          refine lv_iinc (v := x_126) (lv' := [(4, .int x_126), (7, .int 1), (6, .int r_103), (5, .int i), (3, .int fl_), (0, .ref vw), (1, .ref ct), (2, .int wy)]) S.1 S.2.1 dX6_drawWay_123 hl (k := 3) rfl ex_126.symm (by decide) rfl (fun ls hl => ?_)
          have tx_126 : x_126.toInt = i.toInt + (1) := addI (A := i.toInt) (B := 1) ex_126 rfl rfl (by omega) (by omega)
          refine lv_goto (tgt := 26) S.1 S.2.1 dX6_drawWay_126 (by decide) ?_
          exact ih x_126 f_117 f_125 (by first | assumption | omega | decide | (rw [show Int32.toInt 0 = 0 from rfl]; omega)) (by first | assumption | omega | decide | (rw [show Int32.toInt 0 = 0 from rfl]; omega)) (by first | assumption | omega | decide | (rw [show Int32.toInt 0 = 0 from rfl]; omega)) (by first | assumption | omega | decide | (rw [show Int32.toInt 0 = 0 from rfl]; omega)) (by first | assumption | exact dw_o hgc hgb hy (by assumption) (by assumption) hdw (by assumption) (by assumption) (by assumption) (by omega) (by omega) (by omega) (by omega) (by omega) | exact dw_s hgc hgb hy (by assumption) (by assumption) (by assumption) hdw (by assumption) (by assumption) (by omega) (by omega) (by omega) (by omega) (by omega)) (by omega) H _ ls hP hD hS (lv_sub hl [0, 4, 5, 6, 7] rfl)
        · have hP : va_P D vwCl [(vw, .inr (6, [.ref vN, .ref vS, .ref vM, .ref vF])), (vN, .inl (cI, 640, .inl vn1)), (vS, .inl (cI, 640, .inl vs1)), (ct, .inr (1, [.int cw, .int ch, .int cp, .ref aCells, .ref aPrices, .ref aFree, .ref aPlaces, .ref aHomes, .ref aManners, .ref aGone, .ref aPaid, .ref aBlinks])), (aCells, .inl (cI, 80, .inl fc))] H := hP
          have hD : va_D A [(vw, .inr (6, [.ref vN, .ref vS, .ref vM, .ref vF])), (vN, .inl (cI, 640, .inl vn1)), (vS, .inl (cI, 640, .inl vs1)), (ct, .inr (1, [.int cw, .int ch, .int cp, .ref aCells, .ref aPrices, .ref aFree, .ref aPlaces, .ref aHomes, .ref aManners, .ref aGone, .ref aPaid, .ref aBlinks])), (aCells, .inl (cI, 80, .inl fc))] := hD
          refine lv_istore (lv' := [(7, .int 0), (6, .int r_103), (5, .int i), (4, .int i), (3, .int fl_), (0, .ref vw), (1, .ref ct), (2, .int wy)]) S.1 S.2.1 dX6_drawWay_64 hl (by decide) rfl (fun ls hl => ?_)
          refine lv_aload_n S.1 S.2.1 dX6_drawWay_66 rfl (lv_at hl 5 rfl) ?_
          refine b_get (v := .ref vN) S iX6 hK hP 0 rfl rfl 0 (by decide) (by decide +kernel) rfl dX6_drawWay_67 ?_
          refine lv_iload S.1 S.2.1 dX6_drawWay_70 (lv_at hl 2 rfl) ?_
          refine lv_bipush (v := (8)) S.1 S.2.1 dX6_drawWay_72 (by decide) ?_
          refine lv_imul S.1 S.2.1 dX6_drawWay_74 ?_
          refine lv_topi (fun x_127 ex_127 => ?_)
          have tx_127 : x_127.toInt = i.toInt * 8 := mulI (A := i.toInt) (B := 8) ex_127 rfl rfl (by omega) (by omega)
          refine lv_iload_n S.1 S.2.1 dX6_drawWay_75 rfl (lv_at hl 7 rfl) ?_
          refine lv_iadd S.1 S.2.1 dX6_drawWay_76 ?_
          refine lv_topi (fun x_128 ex_128 => ?_)
          have tx_128 : x_128.toInt = x_127.toInt + (wy.toInt) := addI (A := x_127.toInt) (B := wy.toInt) ex_128 rfl rfl (by omega) (by omega)
          refine lv_iload S.1 S.2.1 dX6_drawWay_77 (lv_at hl 0 rfl) ?_
          refine lv_if_eq (tgt := 87) S.1 S.2.1 dX6_drawWay_79 (by decide) (fun c_129 => ?_) (fun c_129 => absurd c_129 (by decide))
          refine lv_iconst (v := (-1)) S.1 S.2.1 dX6_drawWay_87 (by decide) ?_
          refine va_iast S.1 S.2.1 hK.1 hP hD hS 1 0 rfl rfl (in_of (n := 640) (by omega) (by omega)) dX6_drawWay_88 (fun H locs hP hD hS => ?_)
          obtain ⟨f_130, hf_130, rf_130⟩ : ∃ g, (upd vn1 x_128.toNatClampNeg (-1)) = g ∧ rng g 640 (-1) (79) := ⟨_, rfl, rng_upd (by assumption) (show (-1 : Int) ≤ (-1 : Int32).toInt ∧ (-1 : Int32).toInt ≤ 79 from by decide)⟩
          have hP : va_P D vwCl [(vw, .inr (6, [.ref vN, .ref vS, .ref vM, .ref vF])), (vN, .inl (cI, 640, .inl (upd vn1 x_128.toNatClampNeg (-1)))), (vS, .inl (cI, 640, .inl vs1)), (ct, .inr (1, [.int cw, .int ch, .int cp, .ref aCells, .ref aPrices, .ref aFree, .ref aPlaces, .ref aHomes, .ref aManners, .ref aGone, .ref aPaid, .ref aBlinks])), (aCells, .inl (cI, 80, .inl fc))] H := hP
          have hD : va_D A [(vw, .inr (6, [.ref vN, .ref vS, .ref vM, .ref vF])), (vN, .inl (cI, 640, .inl (upd vn1 x_128.toNatClampNeg (-1)))), (vS, .inl (cI, 640, .inl vs1)), (ct, .inr (1, [.int cw, .int ch, .int cp, .ref aCells, .ref aPrices, .ref aFree, .ref aPlaces, .ref aHomes, .ref aManners, .ref aGone, .ref aPaid, .ref aBlinks])), (aCells, .inl (cI, 80, .inl fc))] := hD
          rw [hf_130] at hP hD
          refine lv_aload_n S.1 S.2.1 dX6_drawWay_89 rfl (lv_at hl 5 rfl) ?_
          refine b_get (v := .ref vS) S iX6 hK hP 0 rfl rfl 1 (by decide) (by decide +kernel) rfl dX6_drawWay_90 ?_
          refine lv_iload S.1 S.2.1 dX6_drawWay_93 (lv_at hl 2 rfl) ?_
          refine lv_bipush (v := (8)) S.1 S.2.1 dX6_drawWay_95 (by decide) ?_
          refine lv_imul S.1 S.2.1 dX6_drawWay_97 ?_
          refine lv_topi (fun x_131 ex_131 => ?_)
          have tx_131 : x_131.toInt = i.toInt * 8 := mulI (A := i.toInt) (B := 8) ex_131 rfl rfl (by omega) (by omega)
          refine lv_iload_n S.1 S.2.1 dX6_drawWay_98 rfl (lv_at hl 7 rfl) ?_
          refine lv_iadd S.1 S.2.1 dX6_drawWay_99 ?_
          refine lv_topi (fun x_132 ex_132 => ?_)
          have tx_132 : x_132.toInt = x_131.toInt + (wy.toInt) := addI (A := x_131.toInt) (B := wy.toInt) ex_132 rfl rfl (by omega) (by omega)
          refine lv_iload S.1 S.2.1 dX6_drawWay_100 (lv_at hl 0 rfl) ?_
          refine lv_if_eq (tgt := 120) S.1 S.2.1 dX6_drawWay_102 (by decide) (fun c_133 => ?_) (fun c_133 => absurd c_133 (by decide))
          refine lv_iload S.1 S.2.1 dX6_drawWay_120 (lv_at hl 1 rfl) ?_
          refine va_iast S.1 S.2.1 hK.1 hP hD hS 2 0 rfl rfl (in_of (n := 640) (by omega) (by omega)) dX6_drawWay_122 (fun H locs hP hD hS => ?_)
          obtain ⟨f_134, hf_134, rf_134⟩ : ∃ g, (upd vs1 x_132.toNatClampNeg (r_103)) = g ∧ rng g 640 (-1) (79) := ⟨_, rfl, rng_upd (by assumption) (show (-1 : Int) ≤ (r_103 : Int32).toInt ∧ (r_103 : Int32).toInt ≤ 79 from by omega)⟩
          have hP : va_P D vwCl [(vw, .inr (6, [.ref vN, .ref vS, .ref vM, .ref vF])), (vN, .inl (cI, 640, .inl f_130)), (vS, .inl (cI, 640, .inl (upd vs1 x_132.toNatClampNeg (r_103)))), (ct, .inr (1, [.int cw, .int ch, .int cp, .ref aCells, .ref aPrices, .ref aFree, .ref aPlaces, .ref aHomes, .ref aManners, .ref aGone, .ref aPaid, .ref aBlinks])), (aCells, .inl (cI, 80, .inl fc))] H := hP
          have hD : va_D A [(vw, .inr (6, [.ref vN, .ref vS, .ref vM, .ref vF])), (vN, .inl (cI, 640, .inl f_130)), (vS, .inl (cI, 640, .inl (upd vs1 x_132.toNatClampNeg (r_103)))), (ct, .inr (1, [.int cw, .int ch, .int cp, .ref aCells, .ref aPrices, .ref aFree, .ref aPlaces, .ref aHomes, .ref aManners, .ref aGone, .ref aPaid, .ref aBlinks])), (aCells, .inl (cI, 80, .inl fc))] := hD
          rw [hf_134] at hP hD
          obtain ⟨x_135, ex_135⟩ : ∃ y : Int32, y = i + Int32.ofInt (1) := ⟨_, rfl⟩
          refine lv_iinc (v := x_135) (lv' := [(4, .int x_135), (7, .int 0), (6, .int r_103), (5, .int i), (3, .int fl_), (0, .ref vw), (1, .ref ct), (2, .int wy)]) S.1 S.2.1 dX6_drawWay_123 hl (k := 3) rfl ex_135.symm (by decide) rfl (fun ls hl => ?_)
          have tx_135 : x_135.toInt = i.toInt + (1) := addI (A := i.toInt) (B := 1) ex_135 rfl rfl (by omega) (by omega)
          refine lv_goto (tgt := 26) S.1 S.2.1 dX6_drawWay_126 (by decide) ?_
          exact ih x_135 f_130 f_134 (by first | assumption | omega | decide | (rw [show Int32.toInt 0 = 0 from rfl]; omega)) (by first | assumption | omega | decide | (rw [show Int32.toInt 0 = 0 from rfl]; omega)) (by first | assumption | omega | decide | (rw [show Int32.toInt 0 = 0 from rfl]; omega)) (by first | assumption | omega | decide | (rw [show Int32.toInt 0 = 0 from rfl]; omega)) (by first | assumption | exact dw_o hgc hgb hy (by assumption) (by assumption) hdw (by assumption) (by assumption) (by assumption) (by omega) (by omega) (by omega) (by omega) (by omega) | exact dw_s hgc hgb hy (by assumption) (by assumption) (by assumption) hdw (by assumption) (by assumption) (by omega) (by omega) (by omega) (by omega) (by omega)) (by omega) H _ ls hP hD hS (lv_sub hl [0, 4, 5, 6, 7] rfl)
      · rw [eq2 (a := fl_) (b := 0) (A := fl_.toInt) (B := 0) rfl rfl] at c_102
        refine lv_bipush (v := (79)) S.1 S.2.1 dX6_drawWay_37 (by decide) ?_
        refine lv_iload S.1 S.2.1 dX6_drawWay_39 (lv_at hl 0 rfl) ?_
        refine lv_isub S.1 S.2.1 dX6_drawWay_41 ?_
        refine lv_topi (fun x_136 ex_136 => ?_)
        have tx_136 : x_136.toInt = 79 - (i.toInt) := subI (A := 79) (B := i.toInt) ex_136 rfl rfl (by omega) (by omega)
        refine lv_goto (tgt := 47) S.1 S.2.1 dX6_drawWay_42 (by decide) ?_
        refine lv_istore (lv' := [(5, .int x_136), (4, .int i), (3, .int fl_), (0, .ref vw), (1, .ref ct), (2, .int wy)]) S.1 S.2.1 dX6_drawWay_47 hl (by decide) rfl (fun ls hl => ?_)
        refine lv_aload_n S.1 S.2.1 dX6_drawWay_49 rfl (lv_at hl 4 rfl) ?_
        refine lv_iload S.1 S.2.1 dX6_drawWay_50 (lv_at hl 0 rfl) ?_
        refine lv_iload_n S.1 S.2.1 dX6_drawWay_52 rfl (lv_at hl 5 rfl) ?_
        refine b_ai (wr := [(vw, .inr (6, [.ref vN, .ref vS, .ref vM, .ref vF])), (vN, .inl (cI, 640, .inl vn1)), (vS, .inl (cI, 640, .inl vs1)), (aCells, .inl (cI, 80, .inl fc))]) (b_runV (q0 := 3) (ci := 1) (As := [.int x_136, .int wy]) (s_X1_beside l D cI cZ cC cS sq H.size ct x_136 wy cw ch cp aCells aPrices aFree aPlaces aHomes aManners aGone aPaid aBlinks (by first | assumption | omega | decide | (rw [show Int32.toInt 0 = 0 from rfl]; omega)) (by first | assumption | omega | decide | (rw [show Int32.toInt 0 = 0 from rfl]; omega)) (by first | assumption | omega | decide | (rw [show Int32.toInt 0 = 0 from rfl]; omega)) (by first | assumption | omega | decide | (rw [show Int32.toInt 0 = 0 from rfl]; omega))) S gX6_drawWay_X1_beside rfl hdV_X1_beside ⟨Nat.le_of_ble_eq_true rfl, Nat.le_of_ble_eq_true rfl⟩ ⟨Nat.le_of_ble_eq_true rfl, Nat.le_of_ble_eq_true rfl⟩ hK hT hS hA hP hD rfl rfl [3] rfl (by decide) rfl hl.1 rfl (Nat.le_of_ble_eq_true rfl) dX6_drawWay_53) hP hD hS hA [3] [0, 1, 2, 4] rfl rfl (by decide) (by decide) (fun r_137 w_138 H locs hw_139 hP hD hS => ?_)
        obtain ⟨hf_140, hf_141, rfl⟩ := hw_139
        have hP : va_P D vwCl [(vw, .inr (6, [.ref vN, .ref vS, .ref vM, .ref vF])), (vN, .inl (cI, 640, .inl vn1)), (vS, .inl (cI, 640, .inl vs1)), (aCells, .inl (cI, 80, .inl fc)), (ct, .inr (1, [.int cw, .int ch, .int cp, .ref aCells, .ref aPrices, .ref aFree, .ref aPlaces, .ref aHomes, .ref aManners, .ref aGone, .ref aPaid, .ref aBlinks]))] H := hP
        have hD : va_D A [(vw, .inr (6, [.ref vN, .ref vS, .ref vM, .ref vF])), (vN, .inl (cI, 640, .inl vn1)), (vS, .inl (cI, 640, .inl vs1)), (aCells, .inl (cI, 80, .inl fc)), (ct, .inr (1, [.int cw, .int ch, .int cp, .ref aCells, .ref aPrices, .ref aFree, .ref aPlaces, .ref aHomes, .ref aManners, .ref aGone, .ref aPaid, .ref aBlinks]))] := hD
        refine lv_istore (lv' := [(6, .int r_137), (5, .int x_136), (4, .int i), (3, .int fl_), (0, .ref vw), (1, .ref ct), (2, .int wy)]) S.1 S.2.1 dX6_drawWay_56 hl (by decide) rfl (fun ls hl => ?_)
        refine lv_aload_n S.1 S.2.1 dX6_drawWay_58 rfl (lv_at hl 5 rfl) ?_
        refine lv_iload S.1 S.2.1 dX6_drawWay_59 (lv_at hl 0 rfl) ?_
        refine b_ai (wr := [(vw, .inr (6, [.ref vN, .ref vS, .ref vM, .ref vF])), (vN, .inl (cI, 640, .inl vn1)), (vS, .inl (cI, 640, .inl vs1))]) (b_runV (q0 := 4) (ci := 1) (As := [.int r_137]) (s_X1_isOpen l D cI cZ cC cS sq H.size ct aCells r_137 cw ch cp aPrices aFree aPlaces aHomes aManners aGone aPaid aBlinks fc (by first | assumption | omega | decide | (rw [show Int32.toInt 0 = 0 from rfl]; omega)) (by first | assumption | omega | decide | (rw [show Int32.toInt 0 = 0 from rfl]; omega)) (by first | assumption | omega | decide | (rw [show Int32.toInt 0 = 0 from rfl]; omega))) S gX6_drawWay_X1_isOpen rfl hdV_X1_isOpen ⟨Nat.le_of_ble_eq_true rfl, Nat.le_of_ble_eq_true rfl⟩ ⟨Nat.le_of_ble_eq_true rfl, Nat.le_of_ble_eq_true rfl⟩ hK hT hS hA hP hD rfl rfl [4, 3] rfl (by decide) rfl hl.1 rfl (Nat.le_of_ble_eq_true rfl) dX6_drawWay_61) hP hD hS hA [4, 3] [0, 1, 2] rfl rfl (by decide) (by decide) (fun r_142 w_143 H locs hw_144 hP hD hS => ?_)
        rcases hw_144 with ⟨hf_145, hf_146, rfl, rfl⟩ | ⟨hf_147, rfl, rfl⟩
        · have hP : va_P D vwCl [(vw, .inr (6, [.ref vN, .ref vS, .ref vM, .ref vF])), (vN, .inl (cI, 640, .inl vn1)), (vS, .inl (cI, 640, .inl vs1)), (ct, .inr (1, [.int cw, .int ch, .int cp, .ref aCells, .ref aPrices, .ref aFree, .ref aPlaces, .ref aHomes, .ref aManners, .ref aGone, .ref aPaid, .ref aBlinks])), (aCells, .inl (cI, 80, .inl fc))] H := hP
          have hD : va_D A [(vw, .inr (6, [.ref vN, .ref vS, .ref vM, .ref vF])), (vN, .inl (cI, 640, .inl vn1)), (vS, .inl (cI, 640, .inl vs1)), (ct, .inr (1, [.int cw, .int ch, .int cp, .ref aCells, .ref aPrices, .ref aFree, .ref aPlaces, .ref aHomes, .ref aManners, .ref aGone, .ref aPaid, .ref aBlinks])), (aCells, .inl (cI, 80, .inl fc))] := hD
          refine lv_istore (lv' := [(7, .int 1), (6, .int r_137), (5, .int x_136), (4, .int i), (3, .int fl_), (0, .ref vw), (1, .ref ct), (2, .int wy)]) S.1 S.2.1 dX6_drawWay_64 hl (by decide) rfl (fun ls hl => ?_)
          refine lv_aload_n S.1 S.2.1 dX6_drawWay_66 rfl (lv_at hl 5 rfl) ?_
          refine b_get (v := .ref vN) S iX6 hK hP 0 rfl rfl 0 (by decide) (by decide +kernel) rfl dX6_drawWay_67 ?_
          refine lv_iload S.1 S.2.1 dX6_drawWay_70 (lv_at hl 2 rfl) ?_
          refine lv_bipush (v := (8)) S.1 S.2.1 dX6_drawWay_72 (by decide) ?_
          refine lv_imul S.1 S.2.1 dX6_drawWay_74 ?_
          refine lv_topi (fun x_148 ex_148 => ?_)
          have tx_148 : x_148.toInt = x_136.toInt * 8 := mulI (A := x_136.toInt) (B := 8) ex_148 rfl rfl (by omega) (by omega)
          refine lv_iload_n S.1 S.2.1 dX6_drawWay_75 rfl (lv_at hl 7 rfl) ?_
          refine lv_iadd S.1 S.2.1 dX6_drawWay_76 ?_
          refine lv_topi (fun x_149 ex_149 => ?_)
          have tx_149 : x_149.toInt = x_148.toInt + (wy.toInt) := addI (A := x_148.toInt) (B := wy.toInt) ex_149 rfl rfl (by omega) (by omega)
          refine lv_iload S.1 S.2.1 dX6_drawWay_77 (lv_at hl 0 rfl) ?_
          refine lv_if_eq (tgt := 87) S.1 S.2.1 dX6_drawWay_79 (by decide) (fun c_150 => absurd c_150 (by decide)) (fun c_150 => ?_)
          refine lv_iload S.1 S.2.1 dX6_drawWay_82 (lv_at hl 1 rfl) ?_
          refine lv_goto (tgt := 88) S.1 S.2.1 dX6_drawWay_84 (by decide) ?_
          refine va_iast S.1 S.2.1 hK.1 hP hD hS 1 0 rfl rfl (in_of (n := 640) (by omega) (by omega)) dX6_drawWay_88 (fun H locs hP hD hS => ?_)
          obtain ⟨f_151, hf_151, rf_151⟩ : ∃ g, (upd vn1 x_149.toNatClampNeg (r_137)) = g ∧ rng g 640 (-1) (79) := ⟨_, rfl, rng_upd (by assumption) (show (-1 : Int) ≤ (r_137 : Int32).toInt ∧ (r_137 : Int32).toInt ≤ 79 from by omega)⟩
          have hP : va_P D vwCl [(vw, .inr (6, [.ref vN, .ref vS, .ref vM, .ref vF])), (vN, .inl (cI, 640, .inl (upd vn1 x_149.toNatClampNeg (r_137)))), (vS, .inl (cI, 640, .inl vs1)), (ct, .inr (1, [.int cw, .int ch, .int cp, .ref aCells, .ref aPrices, .ref aFree, .ref aPlaces, .ref aHomes, .ref aManners, .ref aGone, .ref aPaid, .ref aBlinks])), (aCells, .inl (cI, 80, .inl fc))] H := hP
          have hD : va_D A [(vw, .inr (6, [.ref vN, .ref vS, .ref vM, .ref vF])), (vN, .inl (cI, 640, .inl (upd vn1 x_149.toNatClampNeg (r_137)))), (vS, .inl (cI, 640, .inl vs1)), (ct, .inr (1, [.int cw, .int ch, .int cp, .ref aCells, .ref aPrices, .ref aFree, .ref aPlaces, .ref aHomes, .ref aManners, .ref aGone, .ref aPaid, .ref aBlinks])), (aCells, .inl (cI, 80, .inl fc))] := hD
          rw [hf_151] at hP hD
          refine lv_aload_n S.1 S.2.1 dX6_drawWay_89 rfl (lv_at hl 5 rfl) ?_
          refine b_get (v := .ref vS) S iX6 hK hP 0 rfl rfl 1 (by decide) (by decide +kernel) rfl dX6_drawWay_90 ?_
          refine lv_iload S.1 S.2.1 dX6_drawWay_93 (lv_at hl 2 rfl) ?_
          refine lv_bipush (v := (8)) S.1 S.2.1 dX6_drawWay_95 (by decide) ?_
          refine lv_imul S.1 S.2.1 dX6_drawWay_97 ?_
          refine lv_topi (fun x_152 ex_152 => ?_)
          have tx_152 : x_152.toInt = x_136.toInt * 8 := mulI (A := x_136.toInt) (B := 8) ex_152 rfl rfl (by omega) (by omega)
          refine lv_iload_n S.1 S.2.1 dX6_drawWay_98 rfl (lv_at hl 7 rfl) ?_
          refine lv_iadd S.1 S.2.1 dX6_drawWay_99 ?_
          refine lv_topi (fun x_153 ex_153 => ?_)
          have tx_153 : x_153.toInt = x_152.toInt + (wy.toInt) := addI (A := x_152.toInt) (B := wy.toInt) ex_153 rfl rfl (by omega) (by omega)
          refine lv_iload S.1 S.2.1 dX6_drawWay_100 (lv_at hl 0 rfl) ?_
          refine lv_if_eq (tgt := 120) S.1 S.2.1 dX6_drawWay_102 (by decide) (fun c_154 => absurd c_154 (by decide)) (fun c_154 => ?_)
          refine lv_aload_n S.1 S.2.1 dX6_drawWay_105 rfl (lv_at hl 5 rfl) ?_
          refine b_get (v := .ref vS) S iX6 hK hP 0 rfl rfl 1 (by decide) (by decide +kernel) rfl dX6_drawWay_106 ?_
          refine lv_iload S.1 S.2.1 dX6_drawWay_109 (lv_at hl 1 rfl) ?_
          refine lv_bipush (v := (8)) S.1 S.2.1 dX6_drawWay_111 (by decide) ?_
          refine lv_imul S.1 S.2.1 dX6_drawWay_113 ?_
          refine lv_topi (fun x_155 ex_155 => ?_)
          have tx_155 : x_155.toInt = r_137.toInt * 8 := mulI (A := r_137.toInt) (B := 8) ex_155 rfl rfl (by omega) (by omega)
          refine lv_iload_n S.1 S.2.1 dX6_drawWay_114 rfl (lv_at hl 7 rfl) ?_
          refine lv_iadd S.1 S.2.1 dX6_drawWay_115 ?_
          refine lv_topi (fun x_156 ex_156 => ?_)
          have tx_156 : x_156.toInt = x_155.toInt + (wy.toInt) := addI (A := x_155.toInt) (B := wy.toInt) ex_156 rfl rfl (by omega) (by omega)
          have hin_157 : vp_in x_156 640 := (in_of (n := 640) (by omega) (by omega))
          refine va_iald S.1 S.2.1 hK.1 hP 2 0 rfl rfl hin_157 dX6_drawWay_116 ?_
          refine lv_topi (fun x_158 ex_158 => ?_)
          have tx_158 := rng_get (x := x_158) (show rng vs1 640 (-1) (79) by assumption) hin_157 ex_158
          have gsx_158 := dw_get (be := r_137.toInt) hdw (by omega) (by have mo := nb_mono (w := cw.toInt) (h := ch.toInt) (a := x_136.toInt) (y := wy.toInt) (by omega) (by omega) (by omega) hy; omega) hy (by omega) ex_158
          refine lv_goto (tgt := 122) S.1 S.2.1 dX6_drawWay_117 (by decide) ?_
          refine va_iast S.1 S.2.1 hK.1 hP hD hS 2 0 rfl rfl (in_of (n := 640) (by omega) (by omega)) dX6_drawWay_122 (fun H locs hP hD hS => ?_)
          obtain ⟨f_159, hf_159, rf_159⟩ : ∃ g, (upd vs1 x_153.toNatClampNeg (x_158)) = g ∧ rng g 640 (-1) (79) := ⟨_, rfl, rng_upd (by assumption) (show (-1 : Int) ≤ (x_158 : Int32).toInt ∧ (x_158 : Int32).toInt ≤ 79 from by omega)⟩
          have hP : va_P D vwCl [(vw, .inr (6, [.ref vN, .ref vS, .ref vM, .ref vF])), (vN, .inl (cI, 640, .inl f_151)), (vS, .inl (cI, 640, .inl (upd vs1 x_153.toNatClampNeg (x_158)))), (ct, .inr (1, [.int cw, .int ch, .int cp, .ref aCells, .ref aPrices, .ref aFree, .ref aPlaces, .ref aHomes, .ref aManners, .ref aGone, .ref aPaid, .ref aBlinks])), (aCells, .inl (cI, 80, .inl fc))] H := hP
          have hD : va_D A [(vw, .inr (6, [.ref vN, .ref vS, .ref vM, .ref vF])), (vN, .inl (cI, 640, .inl f_151)), (vS, .inl (cI, 640, .inl (upd vs1 x_153.toNatClampNeg (x_158)))), (ct, .inr (1, [.int cw, .int ch, .int cp, .ref aCells, .ref aPrices, .ref aFree, .ref aPlaces, .ref aHomes, .ref aManners, .ref aGone, .ref aPaid, .ref aBlinks])), (aCells, .inl (cI, 80, .inl fc))] := hD
          rw [hf_159] at hP hD
          obtain ⟨x_160, ex_160⟩ : ∃ y : Int32, y = i + Int32.ofInt (1) := ⟨_, rfl⟩
          refine lv_iinc (v := x_160) (lv' := [(4, .int x_160), (7, .int 1), (6, .int r_137), (5, .int x_136), (3, .int fl_), (0, .ref vw), (1, .ref ct), (2, .int wy)]) S.1 S.2.1 dX6_drawWay_123 hl (k := 3) rfl ex_160.symm (by decide) rfl (fun ls hl => ?_)
          have tx_160 : x_160.toInt = i.toInt + (1) := addI (A := i.toInt) (B := 1) ex_160 rfl rfl (by omega) (by omega)
          refine lv_goto (tgt := 26) S.1 S.2.1 dX6_drawWay_126 (by decide) ?_
          exact ih x_160 f_151 f_159 (by first | assumption | omega | decide | (rw [show Int32.toInt 0 = 0 from rfl]; omega)) (by first | assumption | omega | decide | (rw [show Int32.toInt 0 = 0 from rfl]; omega)) (by first | assumption | omega | decide | (rw [show Int32.toInt 0 = 0 from rfl]; omega)) (by first | assumption | omega | decide | (rw [show Int32.toInt 0 = 0 from rfl]; omega)) (by first | assumption | exact dw_o hgc hgb hy (by assumption) (by assumption) hdw (by assumption) (by assumption) (by assumption) (by omega) (by omega) (by omega) (by omega) (by omega) | exact dw_s hgc hgb hy (by assumption) (by assumption) (by assumption) hdw (by assumption) (by assumption) (by omega) (by omega) (by omega) (by omega) (by omega)) (by omega) H _ ls hP hD hS (lv_sub hl [0, 4, 5, 6, 7] rfl)
        · have hP : va_P D vwCl [(vw, .inr (6, [.ref vN, .ref vS, .ref vM, .ref vF])), (vN, .inl (cI, 640, .inl vn1)), (vS, .inl (cI, 640, .inl vs1)), (ct, .inr (1, [.int cw, .int ch, .int cp, .ref aCells, .ref aPrices, .ref aFree, .ref aPlaces, .ref aHomes, .ref aManners, .ref aGone, .ref aPaid, .ref aBlinks])), (aCells, .inl (cI, 80, .inl fc))] H := hP
          have hD : va_D A [(vw, .inr (6, [.ref vN, .ref vS, .ref vM, .ref vF])), (vN, .inl (cI, 640, .inl vn1)), (vS, .inl (cI, 640, .inl vs1)), (ct, .inr (1, [.int cw, .int ch, .int cp, .ref aCells, .ref aPrices, .ref aFree, .ref aPlaces, .ref aHomes, .ref aManners, .ref aGone, .ref aPaid, .ref aBlinks])), (aCells, .inl (cI, 80, .inl fc))] := hD
          refine lv_istore (lv' := [(7, .int 0), (6, .int r_137), (5, .int x_136), (4, .int i), (3, .int fl_), (0, .ref vw), (1, .ref ct), (2, .int wy)]) S.1 S.2.1 dX6_drawWay_64 hl (by decide) rfl (fun ls hl => ?_)
          refine lv_aload_n S.1 S.2.1 dX6_drawWay_66 rfl (lv_at hl 5 rfl) ?_
          refine b_get (v := .ref vN) S iX6 hK hP 0 rfl rfl 0 (by decide) (by decide +kernel) rfl dX6_drawWay_67 ?_
          refine lv_iload S.1 S.2.1 dX6_drawWay_70 (lv_at hl 2 rfl) ?_
          refine lv_bipush (v := (8)) S.1 S.2.1 dX6_drawWay_72 (by decide) ?_
          refine lv_imul S.1 S.2.1 dX6_drawWay_74 ?_
          refine lv_topi (fun x_161 ex_161 => ?_)
          have tx_161 : x_161.toInt = x_136.toInt * 8 := mulI (A := x_136.toInt) (B := 8) ex_161 rfl rfl (by omega) (by omega)
          refine lv_iload_n S.1 S.2.1 dX6_drawWay_75 rfl (lv_at hl 7 rfl) ?_
          refine lv_iadd S.1 S.2.1 dX6_drawWay_76 ?_
          refine lv_topi (fun x_162 ex_162 => ?_)
          have tx_162 : x_162.toInt = x_161.toInt + (wy.toInt) := addI (A := x_161.toInt) (B := wy.toInt) ex_162 rfl rfl (by omega) (by omega)
          refine lv_iload S.1 S.2.1 dX6_drawWay_77 (lv_at hl 0 rfl) ?_
          refine lv_if_eq (tgt := 87) S.1 S.2.1 dX6_drawWay_79 (by decide) (fun c_163 => ?_) (fun c_163 => absurd c_163 (by decide))
          refine lv_iconst (v := (-1)) S.1 S.2.1 dX6_drawWay_87 (by decide) ?_
          refine va_iast S.1 S.2.1 hK.1 hP hD hS 1 0 rfl rfl (in_of (n := 640) (by omega) (by omega)) dX6_drawWay_88 (fun H locs hP hD hS => ?_)
          obtain ⟨f_164, hf_164, rf_164⟩ : ∃ g, (upd vn1 x_162.toNatClampNeg (-1)) = g ∧ rng g 640 (-1) (79) := ⟨_, rfl, rng_upd (by assumption) (show (-1 : Int) ≤ (-1 : Int32).toInt ∧ (-1 : Int32).toInt ≤ 79 from by decide)⟩
          have hP : va_P D vwCl [(vw, .inr (6, [.ref vN, .ref vS, .ref vM, .ref vF])), (vN, .inl (cI, 640, .inl (upd vn1 x_162.toNatClampNeg (-1)))), (vS, .inl (cI, 640, .inl vs1)), (ct, .inr (1, [.int cw, .int ch, .int cp, .ref aCells, .ref aPrices, .ref aFree, .ref aPlaces, .ref aHomes, .ref aManners, .ref aGone, .ref aPaid, .ref aBlinks])), (aCells, .inl (cI, 80, .inl fc))] H := hP
          have hD : va_D A [(vw, .inr (6, [.ref vN, .ref vS, .ref vM, .ref vF])), (vN, .inl (cI, 640, .inl (upd vn1 x_162.toNatClampNeg (-1)))), (vS, .inl (cI, 640, .inl vs1)), (ct, .inr (1, [.int cw, .int ch, .int cp, .ref aCells, .ref aPrices, .ref aFree, .ref aPlaces, .ref aHomes, .ref aManners, .ref aGone, .ref aPaid, .ref aBlinks])), (aCells, .inl (cI, 80, .inl fc))] := hD
          rw [hf_164] at hP hD
          refine lv_aload_n S.1 S.2.1 dX6_drawWay_89 rfl (lv_at hl 5 rfl) ?_
          refine b_get (v := .ref vS) S iX6 hK hP 0 rfl rfl 1 (by decide) (by decide +kernel) rfl dX6_drawWay_90 ?_
          refine lv_iload S.1 S.2.1 dX6_drawWay_93 (lv_at hl 2 rfl) ?_
          refine lv_bipush (v := (8)) S.1 S.2.1 dX6_drawWay_95 (by decide) ?_
          refine lv_imul S.1 S.2.1 dX6_drawWay_97 ?_
          refine lv_topi (fun x_165 ex_165 => ?_)
          have tx_165 : x_165.toInt = x_136.toInt * 8 := mulI (A := x_136.toInt) (B := 8) ex_165 rfl rfl (by omega) (by omega)
          refine lv_iload_n S.1 S.2.1 dX6_drawWay_98 rfl (lv_at hl 7 rfl) ?_
          refine lv_iadd S.1 S.2.1 dX6_drawWay_99 ?_
          refine lv_topi (fun x_166 ex_166 => ?_)
          have tx_166 : x_166.toInt = x_165.toInt + (wy.toInt) := addI (A := x_165.toInt) (B := wy.toInt) ex_166 rfl rfl (by omega) (by omega)
          refine lv_iload S.1 S.2.1 dX6_drawWay_100 (lv_at hl 0 rfl) ?_
          refine lv_if_eq (tgt := 120) S.1 S.2.1 dX6_drawWay_102 (by decide) (fun c_167 => ?_) (fun c_167 => absurd c_167 (by decide))
          refine lv_iload S.1 S.2.1 dX6_drawWay_120 (lv_at hl 1 rfl) ?_
          refine va_iast S.1 S.2.1 hK.1 hP hD hS 2 0 rfl rfl (in_of (n := 640) (by omega) (by omega)) dX6_drawWay_122 (fun H locs hP hD hS => ?_)
          obtain ⟨f_168, hf_168, rf_168⟩ : ∃ g, (upd vs1 x_166.toNatClampNeg (r_137)) = g ∧ rng g 640 (-1) (79) := ⟨_, rfl, rng_upd (by assumption) (show (-1 : Int) ≤ (r_137 : Int32).toInt ∧ (r_137 : Int32).toInt ≤ 79 from by omega)⟩
          have hP : va_P D vwCl [(vw, .inr (6, [.ref vN, .ref vS, .ref vM, .ref vF])), (vN, .inl (cI, 640, .inl f_164)), (vS, .inl (cI, 640, .inl (upd vs1 x_166.toNatClampNeg (r_137)))), (ct, .inr (1, [.int cw, .int ch, .int cp, .ref aCells, .ref aPrices, .ref aFree, .ref aPlaces, .ref aHomes, .ref aManners, .ref aGone, .ref aPaid, .ref aBlinks])), (aCells, .inl (cI, 80, .inl fc))] H := hP
          have hD : va_D A [(vw, .inr (6, [.ref vN, .ref vS, .ref vM, .ref vF])), (vN, .inl (cI, 640, .inl f_164)), (vS, .inl (cI, 640, .inl (upd vs1 x_166.toNatClampNeg (r_137)))), (ct, .inr (1, [.int cw, .int ch, .int cp, .ref aCells, .ref aPrices, .ref aFree, .ref aPlaces, .ref aHomes, .ref aManners, .ref aGone, .ref aPaid, .ref aBlinks])), (aCells, .inl (cI, 80, .inl fc))] := hD
          rw [hf_168] at hP hD
          obtain ⟨x_169, ex_169⟩ : ∃ y : Int32, y = i + Int32.ofInt (1) := ⟨_, rfl⟩
          refine lv_iinc (v := x_169) (lv' := [(4, .int x_169), (7, .int 0), (6, .int r_137), (5, .int x_136), (3, .int fl_), (0, .ref vw), (1, .ref ct), (2, .int wy)]) S.1 S.2.1 dX6_drawWay_123 hl (k := 3) rfl ex_169.symm (by decide) rfl (fun ls hl => ?_)
          have tx_169 : x_169.toInt = i.toInt + (1) := addI (A := i.toInt) (B := 1) ex_169 rfl rfl (by omega) (by omega)
          refine lv_goto (tgt := 26) S.1 S.2.1 dX6_drawWay_126 (by decide) ?_
          exact ih x_169 f_164 f_168 (by first | assumption | omega | decide | (rw [show Int32.toInt 0 = 0 from rfl]; omega)) (by first | assumption | omega | decide | (rw [show Int32.toInt 0 = 0 from rfl]; omega)) (by first | assumption | omega | decide | (rw [show Int32.toInt 0 = 0 from rfl]; omega)) (by first | assumption | omega | decide | (rw [show Int32.toInt 0 = 0 from rfl]; omega)) (by first | assumption | exact dw_o hgc hgb hy (by assumption) (by assumption) hdw (by assumption) (by assumption) (by assumption) (by omega) (by omega) (by omega) (by omega) (by omega) | exact dw_s hgc hgb hy (by assumption) (by assumption) (by assumption) hdw (by assumption) (by assumption) (by omega) (by omega) (by omega) (by omega) (by omega)) (by omega) H _ ls hP hD hS (lv_sub hl [0, 4, 5, 6, 7] rfl)
set_option maxHeartbeats 4000000 in
set_option maxRecDepth 100000 in
theorem s_X6_drawWay (l : Launch) (D : va_G) (cI cZ cC cS : ClassId) (sq : Nat → Nat) (sz : Nat) (vw : Nat) (vN : Nat) (vS : Nat) (ct : Nat) (aCells : Nat) (wy : Int32) (vM : Nat) (vF : Nat) (vn : Nat → Int32) (vs : Nat → Int32) (cw : Int32) (ch : Int32) (cp : Int32) (aPrices : Nat) (aFree : Nat) (aPlaces : Nat) (aHomes : Nat) (aManners : Nat) (aGone : Nat) (aPaid : Nat) (aBlinks : Nat) (fc : Nat → Int32) (gg : Nat → Int) (hrg_vn : rng vn 640 (-1) (79)) (hrg_vs : rng vs 640 (-1) (79)) (hrg_fc : rng fc 80 (-1) (8)) (hw : 0 ≤ cw.toInt ∧ cw.toInt ≤ 10) (hh : 0 ≤ ch.toInt ∧ ch.toInt ≤ 8) (hy : 0 ≤ wy.toInt ∧ wy.toInt < 8) (hgc : GC gg cw.toInt ch.toInt fc) (hgb : gB gg) : mV l yX6_drawWay wsX6_drawWay 2 80 0 0 D (tyW cI cZ cC cS) sq [(vw, .inr (6, [.ref vN, .ref vS, .ref vM, .ref vF])), (vN, .inl (cI, 640, .inl vn)), (vS, .inl (cI, 640, .inl vs)), (ct, .inr (1, [.int cw, .int ch, .int cp, .ref aCells, .ref aPrices, .ref aFree, .ref aPlaces, .ref aHomes, .ref aManners, .ref aGone, .ref aPaid, .ref aBlinks])), (aCells, .inl (cI, 80, .inl fc))] sz [.ref vw, .ref ct, .int wy] (fun w => (∃ (vn2 : Nat → Int32), ∃ (vs2 : Nat → Int32), (rng vn2 640 (-1) (79)) ∧ (rng vs2 640 (-1) (79)) ∧ (dwN gg wy.toInt (fun _ => True) vn vs vn2 vs2) ∧ w = [(vw, .inr (6, [.ref vN, .ref vS, .ref vM, .ref vF])), (vN, .inl (cI, 640, .inl vn2)), (vS, .inl (cI, 640, .inl vs2)), (ct, .inr (1, [.int cw, .int ch, .int cp, .ref aCells, .ref aPrices, .ref aFree, .ref aPlaces, .ref aHomes, .ref aManners, .ref aGone, .ref aPaid, .ref aBlinks])), (aCells, .inl (cI, 80, .inl fc))])) := by
  refine b_metV (cc := cX6_drawWay) (maxL := 8) (ret := none) (by decide) rfl (Nat.le_of_ble_eq_true rfl) ?_
  intro p e s m below meth c ls A H X hsz hP hK hT hD hA hS hl
  have S : CallFix p m c cX6_drawWay 8 s ([.ref vw, .ref ct, .int wy] : List Value).toArray wsX6_drawWay RX6 := X.1
  have hl : lv_has ls 8 [(0, .ref vw), (1, .ref ct), (2, .int wy)] := hl
  have es_ := eES hy
  refine va_getsN (C := RX8) S.1 S.2.1 hT.1.1 hS S.2.2.2.1 (va_Nw.use rfl hK.2.2.2.2.2.2.2.1) (fun _ h => h) dX6_drawWay_0 ?_
  refine lv_iload_n S.1 S.2.1 dX6_drawWay_3 rfl (lv_at hl 2 rfl) ?_
  refine va_ti (v := .int (eastL.getD wy.toNatClampNeg 0)) S.1 S.2.1 hT.1.2 hS (in_of (n := 8) (by omega) (by omega)) rfl dX6_drawWay_4 ?_
  refine lv_topi (fun x_1 ex_1 => ?_)
  have tx_1 := listR (lo := -1) (hi := 1) (l := eastL) (by decide) (by decide) ex_1
  have eax_1 := east_v (w := wy) (by omega) ex_1
  refine lv_bipush (v := (10)) S.1 S.2.1 dX6_drawWay_5 (by decide) ?_
  refine va_getsN (C := RX8) S.1 S.2.1 hT.2.1.1 hS S.2.2.2.1 (va_Nw.use rfl hK.2.2.2.2.2.2.2.2.1) (fun _ h => h) dX6_drawWay_7 ?_
  refine lv_iload_n S.1 S.2.1 dX6_drawWay_10 rfl (lv_at hl 2 rfl) ?_
  refine va_ti (v := .int (southL.getD wy.toNatClampNeg 0)) S.1 S.2.1 hT.2.1.2 hS (in_of (n := 8) (by omega) (by omega)) rfl dX6_drawWay_11 ?_
  refine lv_topi (fun x_2 ex_2 => ?_)
  have tx_2 := listR (lo := -1) (hi := 1) (l := southL) (by decide) (by decide) ex_2
  have sox_2 := south_v (w := wy) (by omega) ex_2
  refine lv_imul S.1 S.2.1 dX6_drawWay_12 ?_
  refine lv_topi (fun x_3 ex_3 => ?_)
  have tx_3 : x_3.toInt = 10 * x_2.toInt := mulI (A := 10) (B := x_2.toInt) ex_3 rfl rfl (by omega) (by omega)
  refine lv_iadd S.1 S.2.1 dX6_drawWay_13 ?_
  refine lv_topi (fun x_4 ex_4 => ?_)
  have tx_4 : x_4.toInt = x_1.toInt + (x_3.toInt) := addI (A := x_1.toInt) (B := x_3.toInt) ex_4 rfl rfl (by omega) (by omega)
  refine lv_if_le (tgt := 21) S.1 S.2.1 dX6_drawWay_14 (by decide) (fun c_5 => ?_) (fun c_5 => ?_)
  · rw [le2 (a := x_4) (b := 0) (A := x_4.toInt) (B := 0) rfl rfl] at c_5
    refine lv_iconst (v := (0)) S.1 S.2.1 dX6_drawWay_21 (by decide) ?_
    refine lv_istore_n (lv' := [(3, .int 0), (0, .ref vw), (1, .ref ct), (2, .int wy)]) S.1 S.2.1 dX6_drawWay_22 rfl hl (by decide) rfl (fun ls hl => ?_)
    refine lv_iconst (v := (0)) S.1 S.2.1 dX6_drawWay_23 (by decide) ?_
    refine lv_istore (lv' := [(4, .int 0), (3, .int 0), (0, .ref vw), (1, .ref ct), (2, .int wy)]) S.1 S.2.1 dX6_drawWay_24 hl (by decide) rfl (fun ls hl => ?_)
    refine lp_drawWay l D cI cZ cC cS sq vw vN vS ct aCells wy vM vF vn vs cw ch cp aPrices aFree aPlaces aHomes aManners aGone aPaid aBlinks fc gg hrg_vn hrg_vs hrg_fc hw hh hy hgc hgb ((0)) (by have l0_ : Int32.toInt 0 = 0 := rfl; have l1_ : Int32.toInt 1 = 1 := rfl; omega) X hK hT hA (fun i_6 vn1_7 vs1_8 hi_9 hi_10 hi_11 hi_12 hi_13 hi_14 H locs ls hP hD hS hl => ?_) _ (0) vn vs (by first | assumption | omega | decide | (rw [show Int32.toInt 0 = 0 from rfl]; omega)) (by first | assumption | omega | decide | (rw [show Int32.toInt 0 = 0 from rfl]; omega)) (by first | assumption | omega | decide | (rw [show Int32.toInt 0 = 0 from rfl]; omega)) (by first | assumption | omega | decide | (rw [show Int32.toInt 0 = 0 from rfl]; omega)) (dw_0 (by decide)) (Nat.lt_succ_self _) H _ ls hP hD hS (lv_sub hl [0, 1, 2, 3, 4] rfl)
    exact b_vret S.1 S.2.1 X.2.1 X.2.2.1 hP hD hS ⟨vn1_7, vs1_8, (by first | assumption | omega | decide | (rw [show Int32.toInt 0 = 0 from rfl]; omega)), (by first | assumption | omega | decide | (rw [show Int32.toInt 0 = 0 from rfl]; omega)), (dw_all (by assumption) (by omega)), rfl⟩ dX6_drawWay_129
  · rw [le2 (a := x_4) (b := 0) (A := x_4.toInt) (B := 0) rfl rfl] at c_5
    refine lv_iconst (v := (1)) S.1 S.2.1 dX6_drawWay_17 (by decide) ?_
    refine lv_goto (tgt := 22) S.1 S.2.1 dX6_drawWay_18 (by decide) ?_
    refine lv_istore_n (lv' := [(3, .int 1), (0, .ref vw), (1, .ref ct), (2, .int wy)]) S.1 S.2.1 dX6_drawWay_22 rfl hl (by decide) rfl (fun ls hl => ?_)
    refine lv_iconst (v := (0)) S.1 S.2.1 dX6_drawWay_23 (by decide) ?_
    refine lv_istore (lv' := [(4, .int 0), (3, .int 1), (0, .ref vw), (1, .ref ct), (2, .int wy)]) S.1 S.2.1 dX6_drawWay_24 hl (by decide) rfl (fun ls hl => ?_)
    refine lp_drawWay l D cI cZ cC cS sq vw vN vS ct aCells wy vM vF vn vs cw ch cp aPrices aFree aPlaces aHomes aManners aGone aPaid aBlinks fc gg hrg_vn hrg_vs hrg_fc hw hh hy hgc hgb ((1)) (by have l0_ : Int32.toInt 0 = 0 := rfl; have l1_ : Int32.toInt 1 = 1 := rfl; omega) X hK hT hA (fun i_15 vn1_16 vs1_17 hi_18 hi_19 hi_20 hi_21 hi_22 hi_23 H locs ls hP hD hS hl => ?_) _ (0) vn vs (by first | assumption | omega | decide | (rw [show Int32.toInt 0 = 0 from rfl]; omega)) (by first | assumption | omega | decide | (rw [show Int32.toInt 0 = 0 from rfl]; omega)) (by first | assumption | omega | decide | (rw [show Int32.toInt 0 = 0 from rfl]; omega)) (by first | assumption | omega | decide | (rw [show Int32.toInt 0 = 0 from rfl]; omega)) (dw_0 (by decide)) (Nat.lt_succ_self _) H _ ls hP hD hS (lv_sub hl [0, 1, 2, 3, 4] rfl)
    exact b_vret S.1 S.2.1 X.2.1 X.2.2.1 hP hD hS ⟨vn1_16, vs1_17, (by first | assumption | omega | decide | (rw [show Int32.toInt 0 = 0 from rfl]; omega)), (by first | assumption | omega | decide | (rw [show Int32.toInt 0 = 0 from rfl]; omega)), (dw_all (by assumption) (by omega)), rfl⟩ dX6_drawWay_129
set_option maxHeartbeats 4000000 in
set_option maxRecDepth 100000 in
theorem lp_draw1 {p : Program} (l : Launch) {e : Env} {s : State} {m : MethodId} {below : List Frame} {meth : Method} {c : Code} (D : va_G) (cI cZ cC cS : ClassId) (sq : Nat → Nat) (vw : Nat) (vN : Nat) (vS : Nat) (vM : Nat) (vF : Nat) (ct : Nat) (aCells : Nat) (vn : Nat → Int32) (vs : Nat → Int32) (vm : Nat → Int32) (vf : Nat → Int32) (cw : Int32) (ch : Int32) (cp : Int32) (aPrices : Nat) (aFree : Nat) (aPlaces : Nat) (aHomes : Nat) (aManners : Nat) (aGone : Nat) (aPaid : Nat) (aBlinks : Nat) (fc : Nat → Int32) (gg : Nat → Int) (hrg_vn : rng vn 640 (-1) (79)) (hrg_vs : rng vs 640 (-1) (79)) (hrg_vm : rng vm 640 (0) (2)) (hrg_vf : rng vf 640 (0) (6)) (hrg_fc : rng fc 80 (-1) (8)) (hw : 0 ≤ cw.toInt ∧ cw.toInt ≤ 10) (hh : 0 ≤ ch.toInt ∧ ch.toInt ≤ 8) (hgc : GC gg cw.toInt ch.toInt fc) (hgb : gB gg) {A : Nat → Prop} (X : bX p s m meth c cX6_draw 4 wsX6_draw yX6_draw none [.ref vw, .ref ct]) (hK : kW D (tyW cI cZ cC cS) sq s) (hT : sT sq A s s.heap) (hA : ∀ q, s.heap.size ≤ q → A q) (K : ∀ (i : Int32) (vn : Nat → Int32) (vs : Nat → Int32) (vm : Nat → Int32) (vf : Nat → Int32), (rng vn 640 (-1) (79)) → (rng vs 640 (-1) (79)) → (rng vm 640 (0) (2)) → (rng vf 640 (0) (6)) → (rng fc 80 (-1) (8)) → (0 ≤ i.toInt ∧ i.toInt ≤ 8) → (dwW gg i.toInt vn vs) → (8 ≤ i.toInt) → ∀ (H : Heap) (locs : List Loc) (ls : Array Slot), va_P D vwCl [(vw, .inr (6, [.ref vN, .ref vS, .ref vM, .ref vF])), (vN, .inl (cI, 640, .inl vn)), (vS, .inl (cI, 640, .inl vs)), (vM, .inl (cI, 640, .inl vm)), (vF, .inl (cI, 640, .inl vf)), (ct, .inr (1, [.int cw, .int ch, .int cp, .ref aCells, .ref aPrices, .ref aFree, .ref aPlaces, .ref aHomes, .ref aManners, .ref aGone, .ref aPaid, .ref aBlinks])), (aCells, .inl (cI, 80, .inl fc))] H → va_D A [(vw, .inr (6, [.ref vN, .ref vS, .ref vM, .ref vF])), (vN, .inl (cI, 640, .inl vn)), (vS, .inl (cI, 640, .inl vs)), (vM, .inl (cI, 640, .inl vm)), (vF, .inl (cI, 640, .inl vf)), (ct, .inr (1, [.int cw, .int ch, .int cp, .ref aCells, .ref aPrices, .ref aFree, .ref aPlaces, .ref aHomes, .ref aManners, .ref aGone, .ref aPaid, .ref aBlinks])), (aCells, .inl (cI, 80, .inl fc))] → va_S A s.heap H locs → lv_has ls 4 [(2, .int i), (0, .ref vw), (1, .ref ct)] → W p l e (rmW 4 160 0 0) s m ([.ref vw, .ref ct] : List Value).toArray below meth c H locs 0 0 (MQ below (va_Qv (fun w => (∃ (vn2 : Nat → Int32), ∃ (vs2 : Nat → Int32), ∃ (vm2 : Nat → Int32), ∃ (vf2 : Nat → Int32), (rng vn2 640 (-1) (79)) ∧ (rng vs2 640 (-1) (79)) ∧ (rng vm2 640 (0) (2)) ∧ (rng vf2 640 (0) (6)) ∧ (VWs gg vn2 vs2 vm2 vf2) ∧ w = [(vw, .inr (6, [.ref vN, .ref vS, .ref vM, .ref vF])), (vN, .inl (cI, 640, .inl vn2)), (vS, .inl (cI, 640, .inl vs2)), (vM, .inl (cI, 640, .inl vm2)), (vF, .inl (cI, 640, .inl vf2)), (ct, .inr (1, [.int cw, .int ch, .int cp, .ref aCells, .ref aPrices, .ref aFree, .ref aPlaces, .ref aHomes, .ref aManners, .ref aGone, .ref aPaid, .ref aBlinks])), (aCells, .inl (cI, 80, .inl fc))])) (wD D A) A) ([.ref vw, .ref ct] : List Value).toArray s 0 0 A) (F0 m 20 ls [])) : ∀ (mN : Nat) (i : Int32) (vn : Nat → Int32) (vs : Nat → Int32) (vm : Nat → Int32) (vf : Nat → Int32), (rng vn 640 (-1) (79)) → (rng vs 640 (-1) (79)) → (rng vm 640 (0) (2)) → (rng vf 640 (0) (6)) → (rng fc 80 (-1) (8)) → (0 ≤ i.toInt ∧ i.toInt ≤ 8) → (dwW gg i.toInt vn vs) → ((8 - i.toInt).toNat < mN) → ∀ (H : Heap) (locs : List Loc) (ls : Array Slot), va_P D vwCl [(vw, .inr (6, [.ref vN, .ref vS, .ref vM, .ref vF])), (vN, .inl (cI, 640, .inl vn)), (vS, .inl (cI, 640, .inl vs)), (vM, .inl (cI, 640, .inl vm)), (vF, .inl (cI, 640, .inl vf)), (ct, .inr (1, [.int cw, .int ch, .int cp, .ref aCells, .ref aPrices, .ref aFree, .ref aPlaces, .ref aHomes, .ref aManners, .ref aGone, .ref aPaid, .ref aBlinks])), (aCells, .inl (cI, 80, .inl fc))] H → va_D A [(vw, .inr (6, [.ref vN, .ref vS, .ref vM, .ref vF])), (vN, .inl (cI, 640, .inl vn)), (vS, .inl (cI, 640, .inl vs)), (vM, .inl (cI, 640, .inl vm)), (vF, .inl (cI, 640, .inl vf)), (ct, .inr (1, [.int cw, .int ch, .int cp, .ref aCells, .ref aPrices, .ref aFree, .ref aPlaces, .ref aHomes, .ref aManners, .ref aGone, .ref aPaid, .ref aBlinks])), (aCells, .inl (cI, 80, .inl fc))] → va_S A s.heap H locs → lv_has ls 4 [(2, .int i), (0, .ref vw), (1, .ref ct)] → W p l e (rmW 4 160 0 0) s m ([.ref vw, .ref ct] : List Value).toArray below meth c H locs 0 0 (MQ below (va_Qv (fun w => (∃ (vn2 : Nat → Int32), ∃ (vs2 : Nat → Int32), ∃ (vm2 : Nat → Int32), ∃ (vf2 : Nat → Int32), (rng vn2 640 (-1) (79)) ∧ (rng vs2 640 (-1) (79)) ∧ (rng vm2 640 (0) (2)) ∧ (rng vf2 640 (0) (6)) ∧ (VWs gg vn2 vs2 vm2 vf2) ∧ w = [(vw, .inr (6, [.ref vN, .ref vS, .ref vM, .ref vF])), (vN, .inl (cI, 640, .inl vn2)), (vS, .inl (cI, 640, .inl vs2)), (vM, .inl (cI, 640, .inl vm2)), (vF, .inl (cI, 640, .inl vf2)), (ct, .inr (1, [.int cw, .int ch, .int cp, .ref aCells, .ref aPrices, .ref aFree, .ref aPlaces, .ref aHomes, .ref aManners, .ref aGone, .ref aPaid, .ref aBlinks])), (aCells, .inl (cI, 80, .inl fc))])) (wD D A) A) ([.ref vw, .ref ct] : List Value).toArray s 0 0 A) (F0 m 2 ls []) := by
  have S : CallFix p m c cX6_draw 4 s ([.ref vw, .ref ct] : List Value).toArray wsX6_draw RX6 := X.1
  intro mN
  induction mN with
  | zero => intro i vn vs vm vf hrg_vn hrg_vs hrg_vm hrg_vf hrg_fc hi hp hm; exact absurd hm (Nat.not_lt_zero _)
  | succ mN ih =>
    intro i vn vs vm vf hrg_vn hrg_vs hrg_vm hrg_vf hrg_fc hi hp hm H locs ls hP hD hS hl
    refine lv_iload_n S.1 S.2.1 dX6_draw_2 rfl (lv_at hl 0 rfl) ?_
    refine lv_bipush (v := (8)) S.1 S.2.1 dX6_draw_3 (by decide) ?_
    refine lv_icmp_ge (tgt := 20) S.1 S.2.1 dX6_draw_5 (by decide) (fun c_101 => ?_) (fun c_101 => ?_)
    · rw [le2 (a := 8) (b := i) (A := 8) (B := i.toInt) rfl rfl] at c_101
      exact K i vn vs vm vf (by first | assumption | omega | decide | (rw [show Int32.toInt 0 = 0 from rfl]; omega)) (by first | assumption | omega | decide | (rw [show Int32.toInt 0 = 0 from rfl]; omega)) (by first | assumption | omega | decide | (rw [show Int32.toInt 0 = 0 from rfl]; omega)) (by first | assumption | omega | decide | (rw [show Int32.toInt 0 = 0 from rfl]; omega)) (by first | assumption | omega | decide | (rw [show Int32.toInt 0 = 0 from rfl]; omega)) (by first | assumption | omega | decide | (rw [show Int32.toInt 0 = 0 from rfl]; omega)) (by first | assumption | exact dwW_st hp (by assumption) (by omega) (by omega)) (by first | assumption | omega | decide | (rw [show Int32.toInt 0 = 0 from rfl]; omega)) H _ ls hP hD hS (lv_sub hl [0, 1, 2] rfl)
    · rw [le2 (a := 8) (b := i) (A := 8) (B := i.toInt) rfl rfl] at c_101
      refine lv_aload_n S.1 S.2.1 dX6_draw_8 rfl (lv_at hl 1 rfl) ?_
      refine lv_aload_n S.1 S.2.1 dX6_draw_9 rfl (lv_at hl 2 rfl) ?_
      refine lv_iload_n S.1 S.2.1 dX6_draw_10 rfl (lv_at hl 0 rfl) ?_
      refine b_av (wr := [(vM, .inl (cI, 640, .inl vm)), (vF, .inl (cI, 640, .inl vf))]) (b_runV (q0 := 0) (ci := 6) (As := [.ref ct, .int i]) (s_X6_drawWay l D cI cZ cC cS sq H.size vw vN vS ct aCells i vM vF vn vs cw ch cp aPrices aFree aPlaces aHomes aManners aGone aPaid aBlinks fc _ (by first | assumption | omega | decide | (rw [show Int32.toInt 0 = 0 from rfl]; omega)) (by first | assumption | omega | decide | (rw [show Int32.toInt 0 = 0 from rfl]; omega)) (by first | assumption | omega | decide | (rw [show Int32.toInt 0 = 0 from rfl]; omega)) (by first | assumption | omega | decide | (rw [show Int32.toInt 0 = 0 from rfl]; omega)) (by first | assumption | omega | decide | (rw [show Int32.toInt 0 = 0 from rfl]; omega)) (by first | assumption | omega | decide | (rw [show Int32.toInt 0 = 0 from rfl]; omega)) (by first | assumption | omega | decide | (rw [show Int32.toInt 0 = 0 from rfl]; omega)) (by first | assumption | omega | decide | (rw [show Int32.toInt 0 = 0 from rfl]; omega))) S gX6_draw_X6_drawWay rfl hdV_X6_drawWay ⟨Nat.le_of_ble_eq_true rfl, Nat.le_of_ble_eq_true rfl⟩ ⟨Nat.le_of_ble_eq_true rfl, Nat.le_of_ble_eq_true rfl⟩ hK hT hS hA hP hD rfl rfl [0, 1, 2, 5, 6] rfl (by decide) rfl hl.1 rfl (Nat.le_of_ble_eq_true rfl) dX6_draw_11) hP hD hS hA [0, 1, 2, 5, 6] [3, 4] rfl rfl (by decide) (by decide) (fun w_103 H locs hw_104 hP hD hS => ?_)
      obtain ⟨vn2_105, vs2_106, hf_107, hf_108, hf_109, rfl⟩ := hw_104
      have hP : va_P D vwCl [(vM, .inl (cI, 640, .inl vm)), (vF, .inl (cI, 640, .inl vf)), (vw, .inr (6, [.ref vN, .ref vS, .ref vM, .ref vF])), (vN, .inl (cI, 640, .inl vn2_105)), (vS, .inl (cI, 640, .inl vs2_106)), (ct, .inr (1, [.int cw, .int ch, .int cp, .ref aCells, .ref aPrices, .ref aFree, .ref aPlaces, .ref aHomes, .ref aManners, .ref aGone, .ref aPaid, .ref aBlinks])), (aCells, .inl (cI, 80, .inl fc))] H := hP
      have hD : va_D A [(vM, .inl (cI, 640, .inl vm)), (vF, .inl (cI, 640, .inl vf)), (vw, .inr (6, [.ref vN, .ref vS, .ref vM, .ref vF])), (vN, .inl (cI, 640, .inl vn2_105)), (vS, .inl (cI, 640, .inl vs2_106)), (ct, .inr (1, [.int cw, .int ch, .int cp, .ref aCells, .ref aPrices, .ref aFree, .ref aPlaces, .ref aHomes, .ref aManners, .ref aGone, .ref aPaid, .ref aBlinks])), (aCells, .inl (cI, 80, .inl fc))] := hD
      obtain ⟨x_110, ex_110⟩ : ∃ y : Int32, y = i + Int32.ofInt (1) := ⟨_, rfl⟩
      refine lv_iinc (v := x_110) (lv' := [(2, .int x_110), (0, .ref vw), (1, .ref ct)]) S.1 S.2.1 dX6_draw_14 hl (k := 0) rfl ex_110.symm (by decide) rfl (fun ls hl => ?_)
      have tx_110 : x_110.toInt = i.toInt + (1) := addI (A := i.toInt) (B := 1) ex_110 rfl rfl (by omega) (by omega)
      refine lv_goto (tgt := 2) S.1 S.2.1 dX6_draw_17 (by decide) ?_
      have hP := hP.sub (ws' := [(vw, .inr (6, [.ref vN, .ref vS, .ref vM, .ref vF])), (vN, .inl (cI, 640, .inl vn2_105)), (vS, .inl (cI, 640, .inl vs2_106)), (vM, .inl (cI, 640, .inl vm)), (vF, .inl (cI, 640, .inl vf)), (ct, .inr (1, [.int cw, .int ch, .int cp, .ref aCells, .ref aPrices, .ref aFree, .ref aPlaces, .ref aHomes, .ref aManners, .ref aGone, .ref aPaid, .ref aBlinks])), (aCells, .inl (cI, 80, .inl fc))]) [2, 3, 4, 0, 1, 5, 6] rfl
      have hD := hD.sub (ws' := [(vw, .inr (6, [.ref vN, .ref vS, .ref vM, .ref vF])), (vN, .inl (cI, 640, .inl vn2_105)), (vS, .inl (cI, 640, .inl vs2_106)), (vM, .inl (cI, 640, .inl vm)), (vF, .inl (cI, 640, .inl vf)), (ct, .inr (1, [.int cw, .int ch, .int cp, .ref aCells, .ref aPrices, .ref aFree, .ref aPlaces, .ref aHomes, .ref aManners, .ref aGone, .ref aPaid, .ref aBlinks])), (aCells, .inl (cI, 80, .inl fc))]) [2, 3, 4, 0, 1, 5, 6] (by decide) rfl
      exact ih x_110 vn2_105 vs2_106 vm vf (by first | assumption | omega | decide | (rw [show Int32.toInt 0 = 0 from rfl]; omega)) (by first | assumption | omega | decide | (rw [show Int32.toInt 0 = 0 from rfl]; omega)) (by first | assumption | omega | decide | (rw [show Int32.toInt 0 = 0 from rfl]; omega)) (by first | assumption | omega | decide | (rw [show Int32.toInt 0 = 0 from rfl]; omega)) (by first | assumption | omega | decide | (rw [show Int32.toInt 0 = 0 from rfl]; omega)) (by first | assumption | omega | decide | (rw [show Int32.toInt 0 = 0 from rfl]; omega)) (by first | assumption | exact dwW_st hp (by assumption) (by omega) (by omega)) (by omega) H _ ls hP hD hS (lv_sub hl [0, 1, 2] rfl)
set_option maxHeartbeats 4000000 in
set_option maxRecDepth 100000 in
theorem lp_draw3 {p : Program} (l : Launch) {e : Env} {s : State} {m : MethodId} {below : List Frame} {meth : Method} {c : Code} (D : va_G) (cI cZ cC cS : ClassId) (sq : Nat → Nat) (vw : Nat) (vN : Nat) (vS : Nat) (vM : Nat) (vF : Nat) (ct : Nat) (aCells : Nat) (vn : Nat → Int32) (vs : Nat → Int32) (vm : Nat → Int32) (vf : Nat → Int32) (cw : Int32) (ch : Int32) (cp : Int32) (aPrices : Nat) (aFree : Nat) (aPlaces : Nat) (aHomes : Nat) (aManners : Nat) (aGone : Nat) (aPaid : Nat) (aBlinks : Nat) (fc : Nat → Int32) (gg : Nat → Int) (hrg_vn : rng vn 640 (-1) (79)) (hrg_vs : rng vs 640 (-1) (79)) (hrg_vm : rng vm 640 (0) (2)) (hrg_vf : rng vf 640 (0) (6)) (hrg_fc : rng fc 80 (-1) (8)) (hw : 0 ≤ cw.toInt ∧ cw.toInt ≤ 10) (hh : 0 ≤ ch.toInt ∧ ch.toInt ≤ 8) (hgc : GC gg cw.toInt ch.toInt fc) (hgb : gB gg) (ci : Int32) (hc : 0 ≤ ci.toInt ∧ ci.toInt < 80) {A : Nat → Prop} (X : bX p s m meth c cX6_draw 4 wsX6_draw yX6_draw none [.ref vw, .ref ct]) (hK : kW D (tyW cI cZ cC cS) sq s) (hT : sT sq A s s.heap) (hA : ∀ q, s.heap.size ≤ q → A q) (K : ∀ (j : Int32) (vn : Nat → Int32) (vs : Nat → Int32) (vm : Nat → Int32) (vf : Nat → Int32), (rng vn 640 (-1) (79)) → (rng vs 640 (-1) (79)) → (rng vm 640 (0) (2)) → (rng vf 640 (0) (6)) → (rng fc 80 (-1) (8)) → (0 ≤ j.toInt ∧ j.toInt ≤ 4) → (rdW gg ci.toInt j.toInt vn vs vm vf) → (4 ≤ j.toInt) → ∀ (H : Heap) (locs : List Loc) (ls : Array Slot), va_P D vwCl [(vw, .inr (6, [.ref vN, .ref vS, .ref vM, .ref vF])), (vN, .inl (cI, 640, .inl vn)), (vS, .inl (cI, 640, .inl vs)), (vM, .inl (cI, 640, .inl vm)), (vF, .inl (cI, 640, .inl vf)), (ct, .inr (1, [.int cw, .int ch, .int cp, .ref aCells, .ref aPrices, .ref aFree, .ref aPlaces, .ref aHomes, .ref aManners, .ref aGone, .ref aPaid, .ref aBlinks])), (aCells, .inl (cI, 80, .inl fc))] H → va_D A [(vw, .inr (6, [.ref vN, .ref vS, .ref vM, .ref vF])), (vN, .inl (cI, 640, .inl vn)), (vS, .inl (cI, 640, .inl vs)), (vM, .inl (cI, 640, .inl vm)), (vF, .inl (cI, 640, .inl vf)), (ct, .inr (1, [.int cw, .int ch, .int cp, .ref aCells, .ref aPrices, .ref aFree, .ref aPlaces, .ref aHomes, .ref aManners, .ref aGone, .ref aPaid, .ref aBlinks])), (aCells, .inl (cI, 80, .inl fc))] → va_S A s.heap H locs → lv_has ls 4 [(3, .int j), (2, .int ci), (0, .ref vw), (1, .ref ct)] → W p l e (rmW 4 160 0 0) s m ([.ref vw, .ref ct] : List Value).toArray below meth c H locs 0 0 (MQ below (va_Qv (fun w => (∃ (vn2 : Nat → Int32), ∃ (vs2 : Nat → Int32), ∃ (vm2 : Nat → Int32), ∃ (vf2 : Nat → Int32), (rng vn2 640 (-1) (79)) ∧ (rng vs2 640 (-1) (79)) ∧ (rng vm2 640 (0) (2)) ∧ (rng vf2 640 (0) (6)) ∧ (VWs gg vn2 vs2 vm2 vf2) ∧ w = [(vw, .inr (6, [.ref vN, .ref vS, .ref vM, .ref vF])), (vN, .inl (cI, 640, .inl vn2)), (vS, .inl (cI, 640, .inl vs2)), (vM, .inl (cI, 640, .inl vm2)), (vF, .inl (cI, 640, .inl vf2)), (ct, .inr (1, [.int cw, .int ch, .int cp, .ref aCells, .ref aPrices, .ref aFree, .ref aPlaces, .ref aHomes, .ref aManners, .ref aGone, .ref aPaid, .ref aBlinks])), (aCells, .inl (cI, 80, .inl fc))])) (wD D A) A) ([.ref vw, .ref ct] : List Value).toArray s 0 0 A) (F0 m 60 ls [])) : ∀ (mN : Nat) (j : Int32) (vn : Nat → Int32) (vs : Nat → Int32) (vm : Nat → Int32) (vf : Nat → Int32), (rng vn 640 (-1) (79)) → (rng vs 640 (-1) (79)) → (rng vm 640 (0) (2)) → (rng vf 640 (0) (6)) → (rng fc 80 (-1) (8)) → (0 ≤ j.toInt ∧ j.toInt ≤ 4) → (rdW gg ci.toInt j.toInt vn vs vm vf) → ((4 - j.toInt).toNat < mN) → ∀ (H : Heap) (locs : List Loc) (ls : Array Slot), va_P D vwCl [(vw, .inr (6, [.ref vN, .ref vS, .ref vM, .ref vF])), (vN, .inl (cI, 640, .inl vn)), (vS, .inl (cI, 640, .inl vs)), (vM, .inl (cI, 640, .inl vm)), (vF, .inl (cI, 640, .inl vf)), (ct, .inr (1, [.int cw, .int ch, .int cp, .ref aCells, .ref aPrices, .ref aFree, .ref aPlaces, .ref aHomes, .ref aManners, .ref aGone, .ref aPaid, .ref aBlinks])), (aCells, .inl (cI, 80, .inl fc))] H → va_D A [(vw, .inr (6, [.ref vN, .ref vS, .ref vM, .ref vF])), (vN, .inl (cI, 640, .inl vn)), (vS, .inl (cI, 640, .inl vs)), (vM, .inl (cI, 640, .inl vm)), (vF, .inl (cI, 640, .inl vf)), (ct, .inr (1, [.int cw, .int ch, .int cp, .ref aCells, .ref aPrices, .ref aFree, .ref aPlaces, .ref aHomes, .ref aManners, .ref aGone, .ref aPaid, .ref aBlinks])), (aCells, .inl (cI, 80, .inl fc))] → va_S A s.heap H locs → lv_has ls 4 [(3, .int j), (2, .int ci), (0, .ref vw), (1, .ref ct)] → W p l e (rmW 4 160 0 0) s m ([.ref vw, .ref ct] : List Value).toArray below meth c H locs 0 0 (MQ below (va_Qv (fun w => (∃ (vn2 : Nat → Int32), ∃ (vs2 : Nat → Int32), ∃ (vm2 : Nat → Int32), ∃ (vf2 : Nat → Int32), (rng vn2 640 (-1) (79)) ∧ (rng vs2 640 (-1) (79)) ∧ (rng vm2 640 (0) (2)) ∧ (rng vf2 640 (0) (6)) ∧ (VWs gg vn2 vs2 vm2 vf2) ∧ w = [(vw, .inr (6, [.ref vN, .ref vS, .ref vM, .ref vF])), (vN, .inl (cI, 640, .inl vn2)), (vS, .inl (cI, 640, .inl vs2)), (vM, .inl (cI, 640, .inl vm2)), (vF, .inl (cI, 640, .inl vf2)), (ct, .inr (1, [.int cw, .int ch, .int cp, .ref aCells, .ref aPrices, .ref aFree, .ref aPlaces, .ref aHomes, .ref aManners, .ref aGone, .ref aPaid, .ref aBlinks])), (aCells, .inl (cI, 80, .inl fc))])) (wD D A) A) ([.ref vw, .ref ct] : List Value).toArray s 0 0 A) (F0 m 30 ls []) := by
  have S : CallFix p m c cX6_draw 4 s ([.ref vw, .ref ct] : List Value).toArray wsX6_draw RX6 := X.1
  intro mN
  induction mN with
  | zero => intro j vn vs vm vf hrg_vn hrg_vs hrg_vm hrg_vf hrg_fc hj hr hm; exact absurd hm (Nat.not_lt_zero _)
  | succ mN ih =>
    intro j vn vs vm vf hrg_vn hrg_vs hrg_vm hrg_vf hrg_fc hj hr hm H locs ls hP hD hS hl
    refine lv_iload_n S.1 S.2.1 dX6_draw_30 rfl (lv_at hl 0 rfl) ?_
    refine lv_iconst (v := (4)) S.1 S.2.1 dX6_draw_31 (by decide) ?_
    refine lv_icmp_ge (tgt := 60) S.1 S.2.1 dX6_draw_32 (by decide) (fun c_201 => ?_) (fun c_201 => ?_)
    · rw [le2 (a := 4) (b := j) (A := 4) (B := j.toInt) rfl rfl] at c_201
      exact K j vn vs vm vf (by first | assumption | omega | decide | (rw [show Int32.toInt 0 = 0 from rfl]; omega)) (by first | assumption | omega | decide | (rw [show Int32.toInt 0 = 0 from rfl]; omega)) (by first | assumption | omega | decide | (rw [show Int32.toInt 0 = 0 from rfl]; omega)) (by first | assumption | omega | decide | (rw [show Int32.toInt 0 = 0 from rfl]; omega)) (by first | assumption | omega | decide | (rw [show Int32.toInt 0 = 0 from rfl]; omega)) (by first | assumption | omega | decide | (rw [show Int32.toInt 0 = 0 from rfl]; omega)) (by first | assumption | exact rdW_st hr (by assumption) (by omega) (by omega) (by omega) (by omega) (by omega) (rd_at hr (by omega) (by omega) (by omega) (by omega)) (rd_at hr (by omega) (by omega) (by omega) (by omega))) (by first | assumption | omega | decide | (rw [show Int32.toInt 0 = 0 from rfl]; omega)) H _ ls hP hD hS (lv_sub hl [0, 1, 2, 3] rfl)
    · rw [le2 (a := 4) (b := j) (A := 4) (B := j.toInt) rfl rfl] at c_201
      refine lv_aload_n S.1 S.2.1 dX6_draw_35 rfl (lv_at hl 2 rfl) ?_
      refine lv_aload_n S.1 S.2.1 dX6_draw_36 rfl (lv_at hl 3 rfl) ?_
      refine lv_iload_n S.1 S.2.1 dX6_draw_37 rfl (lv_at hl 1 rfl) ?_
      refine lv_bipush (v := (8)) S.1 S.2.1 dX6_draw_38 (by decide) ?_
      refine lv_imul S.1 S.2.1 dX6_draw_40 ?_
      refine lv_topi (fun x_202 ex_202 => ?_)
      have tx_202 : x_202.toInt = ci.toInt * 8 := mulI (A := ci.toInt) (B := 8) ex_202 rfl rfl (by omega) (by omega)
      refine lv_iload_n S.1 S.2.1 dX6_draw_41 rfl (lv_at hl 0 rfl) ?_
      refine lv_iadd S.1 S.2.1 dX6_draw_42 ?_
      refine lv_topi (fun x_203 ex_203 => ?_)
      have tx_203 : x_203.toInt = x_202.toInt + (j.toInt) := addI (A := x_202.toInt) (B := j.toInt) ex_203 rfl rfl (by omega) (by omega)
      refine lv_iload_n S.1 S.2.1 dX6_draw_43 rfl (lv_at hl 1 rfl) ?_
      refine lv_bipush (v := (8)) S.1 S.2.1 dX6_draw_44 (by decide) ?_
      refine lv_imul S.1 S.2.1 dX6_draw_46 ?_
      refine lv_topi (fun x_204 ex_204 => ?_)
      have tx_204 : x_204.toInt = ci.toInt * 8 := mulI (A := ci.toInt) (B := 8) ex_204 rfl rfl (by omega) (by omega)
      refine lv_iload_n S.1 S.2.1 dX6_draw_47 rfl (lv_at hl 0 rfl) ?_
      refine lv_iadd S.1 S.2.1 dX6_draw_48 ?_
      refine lv_topi (fun x_205 ex_205 => ?_)
      have tx_205 : x_205.toInt = x_204.toInt + (j.toInt) := addI (A := x_204.toInt) (B := j.toInt) ex_205 rfl rfl (by omega) (by omega)
      refine lv_iconst (v := (4)) S.1 S.2.1 dX6_draw_49 (by decide) ?_
      refine lv_iadd S.1 S.2.1 dX6_draw_50 ?_
      refine lv_topi (fun x_206 ex_206 => ?_)
      have tx_206 : x_206.toInt = x_205.toInt + (4) := addI (A := x_205.toInt) (B := 4) ex_206 rfl rfl (by omega) (by omega)
      refine b_av (wr := [(vN, .inl (cI, 640, .inl vn))]) (b_runV (q0 := 0) (ci := 6) (As := [.ref ct, .int x_203, .int x_206]) (s_X6_reflect l D cI cZ cC cS sq H.size vw vS vM vF ct aCells x_203 x_206 vN vs vm vf cw ch cp aPrices aFree aPlaces aHomes aManners aGone aPaid aBlinks fc _ (by first | assumption | omega | decide | (rw [show Int32.toInt 0 = 0 from rfl]; omega)) (by first | assumption | omega | decide | (rw [show Int32.toInt 0 = 0 from rfl]; omega)) (by first | assumption | omega | decide | (rw [show Int32.toInt 0 = 0 from rfl]; omega)) (by first | assumption | omega | decide | (rw [show Int32.toInt 0 = 0 from rfl]; omega)) (by first | assumption | omega | decide | (rw [show Int32.toInt 0 = 0 from rfl]; omega)) (by first | assumption | omega | decide | (rw [show Int32.toInt 0 = 0 from rfl]; omega)) (by first | assumption | omega | decide | (rw [show Int32.toInt 0 = 0 from rfl]; omega)) (by first | assumption | omega | decide | (rw [show Int32.toInt 0 = 0 from rfl]; omega)) (by first | assumption | omega | decide | (rw [show Int32.toInt 0 = 0 from rfl]; omega)) (by first | assumption | omega | decide | (rw [show Int32.toInt 0 = 0 from rfl]; omega)) (by rw [rd_at (w := j.toInt) hr (by omega) (by omega) (by omega) (by omega)]; exact s1T_in hgb (by omega)) (by rw [rd_at (w := j.toInt + 4) hr (by omega) (by omega) (by omega) (by omega)]; exact s1T_in hgb (by omega))) S gX6_draw_X6_reflect rfl hdV_X6_reflect ⟨Nat.le_of_ble_eq_true rfl, Nat.le_of_ble_eq_true rfl⟩ ⟨Nat.le_of_ble_eq_true rfl, Nat.le_of_ble_eq_true rfl⟩ hK hT hS hA hP hD rfl rfl [0, 2, 3, 4, 5, 6] rfl (by decide) rfl hl.1 rfl (Nat.le_of_ble_eq_true rfl) dX6_draw_51) hP hD hS hA [0, 2, 3, 4, 5, 6] [1] rfl rfl (by decide) (by decide) (fun w_208 H locs hw_209 hP hD hS => ?_)
      obtain ⟨vs2_210, vm2_211, vf2_212, hf_213, hf_214, hf_215, hf_216, rfl⟩ := hw_209
      have hP : va_P D vwCl [(vN, .inl (cI, 640, .inl vn)), (vw, .inr (6, [.ref vN, .ref vS, .ref vM, .ref vF])), (vS, .inl (cI, 640, .inl vs2_210)), (vM, .inl (cI, 640, .inl vm2_211)), (vF, .inl (cI, 640, .inl vf2_212)), (ct, .inr (1, [.int cw, .int ch, .int cp, .ref aCells, .ref aPrices, .ref aFree, .ref aPlaces, .ref aHomes, .ref aManners, .ref aGone, .ref aPaid, .ref aBlinks])), (aCells, .inl (cI, 80, .inl fc))] H := hP
      have hD : va_D A [(vN, .inl (cI, 640, .inl vn)), (vw, .inr (6, [.ref vN, .ref vS, .ref vM, .ref vF])), (vS, .inl (cI, 640, .inl vs2_210)), (vM, .inl (cI, 640, .inl vm2_211)), (vF, .inl (cI, 640, .inl vf2_212)), (ct, .inr (1, [.int cw, .int ch, .int cp, .ref aCells, .ref aPrices, .ref aFree, .ref aPlaces, .ref aHomes, .ref aManners, .ref aGone, .ref aPaid, .ref aBlinks])), (aCells, .inl (cI, 80, .inl fc))] := hD
      obtain ⟨x_217, ex_217⟩ : ∃ y : Int32, y = j + Int32.ofInt (1) := ⟨_, rfl⟩
      refine lv_iinc (v := x_217) (lv' := [(3, .int x_217), (2, .int ci), (0, .ref vw), (1, .ref ct)]) S.1 S.2.1 dX6_draw_54 hl (k := 0) rfl ex_217.symm (by decide) rfl (fun ls hl => ?_)
      have tx_217 : x_217.toInt = j.toInt + (1) := addI (A := j.toInt) (B := 1) ex_217 rfl rfl (by omega) (by omega)
      refine lv_goto (tgt := 30) S.1 S.2.1 dX6_draw_57 (by decide) ?_
      have hP := hP.sub (ws' := [(vw, .inr (6, [.ref vN, .ref vS, .ref vM, .ref vF])), (vN, .inl (cI, 640, .inl vn)), (vS, .inl (cI, 640, .inl vs2_210)), (vM, .inl (cI, 640, .inl vm2_211)), (vF, .inl (cI, 640, .inl vf2_212)), (ct, .inr (1, [.int cw, .int ch, .int cp, .ref aCells, .ref aPrices, .ref aFree, .ref aPlaces, .ref aHomes, .ref aManners, .ref aGone, .ref aPaid, .ref aBlinks])), (aCells, .inl (cI, 80, .inl fc))]) [1, 0, 2, 3, 4, 5, 6] rfl
      have hD := hD.sub (ws' := [(vw, .inr (6, [.ref vN, .ref vS, .ref vM, .ref vF])), (vN, .inl (cI, 640, .inl vn)), (vS, .inl (cI, 640, .inl vs2_210)), (vM, .inl (cI, 640, .inl vm2_211)), (vF, .inl (cI, 640, .inl vf2_212)), (ct, .inr (1, [.int cw, .int ch, .int cp, .ref aCells, .ref aPrices, .ref aFree, .ref aPlaces, .ref aHomes, .ref aManners, .ref aGone, .ref aPaid, .ref aBlinks])), (aCells, .inl (cI, 80, .inl fc))]) [1, 0, 2, 3, 4, 5, 6] (by decide) rfl
      exact ih x_217 vn vs2_210 vm2_211 vf2_212 (by first | assumption | omega | decide | (rw [show Int32.toInt 0 = 0 from rfl]; omega)) (by first | assumption | omega | decide | (rw [show Int32.toInt 0 = 0 from rfl]; omega)) (by first | assumption | omega | decide | (rw [show Int32.toInt 0 = 0 from rfl]; omega)) (by first | assumption | omega | decide | (rw [show Int32.toInt 0 = 0 from rfl]; omega)) (by first | assumption | omega | decide | (rw [show Int32.toInt 0 = 0 from rfl]; omega)) (by first | assumption | omega | decide | (rw [show Int32.toInt 0 = 0 from rfl]; omega)) (by first | assumption | exact rdW_st hr (by assumption) (by omega) (by omega) (by omega) (by omega) (by omega) (rd_at hr (by omega) (by omega) (by omega) (by omega)) (rd_at hr (by omega) (by omega) (by omega) (by omega))) (by omega) H _ ls hP hD hS (lv_sub hl [0, 1, 2, 3] rfl)
set_option maxHeartbeats 4000000 in
set_option maxRecDepth 100000 in
theorem lp_draw2 {p : Program} (l : Launch) {e : Env} {s : State} {m : MethodId} {below : List Frame} {meth : Method} {c : Code} (D : va_G) (cI cZ cC cS : ClassId) (sq : Nat → Nat) (vw : Nat) (vN : Nat) (vS : Nat) (vM : Nat) (vF : Nat) (ct : Nat) (aCells : Nat) (vn : Nat → Int32) (vs : Nat → Int32) (vm : Nat → Int32) (vf : Nat → Int32) (cw : Int32) (ch : Int32) (cp : Int32) (aPrices : Nat) (aFree : Nat) (aPlaces : Nat) (aHomes : Nat) (aManners : Nat) (aGone : Nat) (aPaid : Nat) (aBlinks : Nat) (fc : Nat → Int32) (gg : Nat → Int) (hrg_vn : rng vn 640 (-1) (79)) (hrg_vs : rng vs 640 (-1) (79)) (hrg_vm : rng vm 640 (0) (2)) (hrg_vf : rng vf 640 (0) (6)) (hrg_fc : rng fc 80 (-1) (8)) (hw : 0 ≤ cw.toInt ∧ cw.toInt ≤ 10) (hh : 0 ≤ ch.toInt ∧ ch.toInt ≤ 8) (hgc : GC gg cw.toInt ch.toInt fc) (hgb : gB gg) {A : Nat → Prop} (X : bX p s m meth c cX6_draw 4 wsX6_draw yX6_draw none [.ref vw, .ref ct]) (hK : kW D (tyW cI cZ cC cS) sq s) (hT : sT sq A s s.heap) (hA : ∀ q, s.heap.size ≤ q → A q) (K : ∀ (i : Int32) (vn : Nat → Int32) (vs : Nat → Int32) (vm : Nat → Int32) (vf : Nat → Int32), (rng vn 640 (-1) (79)) → (rng vs 640 (-1) (79)) → (rng vm 640 (0) (2)) → (rng vf 640 (0) (6)) → (rng fc 80 (-1) (8)) → (0 ≤ i.toInt ∧ i.toInt ≤ 80) → (rdW gg i.toInt 0 vn vs vm vf) → (80 ≤ i.toInt) → ∀ (H : Heap) (locs : List Loc) (ls : Array Slot), va_P D vwCl [(vw, .inr (6, [.ref vN, .ref vS, .ref vM, .ref vF])), (vN, .inl (cI, 640, .inl vn)), (vS, .inl (cI, 640, .inl vs)), (vM, .inl (cI, 640, .inl vm)), (vF, .inl (cI, 640, .inl vf)), (ct, .inr (1, [.int cw, .int ch, .int cp, .ref aCells, .ref aPrices, .ref aFree, .ref aPlaces, .ref aHomes, .ref aManners, .ref aGone, .ref aPaid, .ref aBlinks])), (aCells, .inl (cI, 80, .inl fc))] H → va_D A [(vw, .inr (6, [.ref vN, .ref vS, .ref vM, .ref vF])), (vN, .inl (cI, 640, .inl vn)), (vS, .inl (cI, 640, .inl vs)), (vM, .inl (cI, 640, .inl vm)), (vF, .inl (cI, 640, .inl vf)), (ct, .inr (1, [.int cw, .int ch, .int cp, .ref aCells, .ref aPrices, .ref aFree, .ref aPlaces, .ref aHomes, .ref aManners, .ref aGone, .ref aPaid, .ref aBlinks])), (aCells, .inl (cI, 80, .inl fc))] → va_S A s.heap H locs → lv_has ls 4 [(2, .int i), (0, .ref vw), (1, .ref ct)] → W p l e (rmW 4 160 0 0) s m ([.ref vw, .ref ct] : List Value).toArray below meth c H locs 0 0 (MQ below (va_Qv (fun w => (∃ (vn2 : Nat → Int32), ∃ (vs2 : Nat → Int32), ∃ (vm2 : Nat → Int32), ∃ (vf2 : Nat → Int32), (rng vn2 640 (-1) (79)) ∧ (rng vs2 640 (-1) (79)) ∧ (rng vm2 640 (0) (2)) ∧ (rng vf2 640 (0) (6)) ∧ (VWs gg vn2 vs2 vm2 vf2) ∧ w = [(vw, .inr (6, [.ref vN, .ref vS, .ref vM, .ref vF])), (vN, .inl (cI, 640, .inl vn2)), (vS, .inl (cI, 640, .inl vs2)), (vM, .inl (cI, 640, .inl vm2)), (vF, .inl (cI, 640, .inl vf2)), (ct, .inr (1, [.int cw, .int ch, .int cp, .ref aCells, .ref aPrices, .ref aFree, .ref aPlaces, .ref aHomes, .ref aManners, .ref aGone, .ref aPaid, .ref aBlinks])), (aCells, .inl (cI, 80, .inl fc))])) (wD D A) A) ([.ref vw, .ref ct] : List Value).toArray s 0 0 A) (F0 m 66 ls [])) : ∀ (mN : Nat) (i : Int32) (vn : Nat → Int32) (vs : Nat → Int32) (vm : Nat → Int32) (vf : Nat → Int32), (rng vn 640 (-1) (79)) → (rng vs 640 (-1) (79)) → (rng vm 640 (0) (2)) → (rng vf 640 (0) (6)) → (rng fc 80 (-1) (8)) → (0 ≤ i.toInt ∧ i.toInt ≤ 80) → (rdW gg i.toInt 0 vn vs vm vf) → ((80 - i.toInt).toNat < mN) → ∀ (H : Heap) (locs : List Loc) (ls : Array Slot), va_P D vwCl [(vw, .inr (6, [.ref vN, .ref vS, .ref vM, .ref vF])), (vN, .inl (cI, 640, .inl vn)), (vS, .inl (cI, 640, .inl vs)), (vM, .inl (cI, 640, .inl vm)), (vF, .inl (cI, 640, .inl vf)), (ct, .inr (1, [.int cw, .int ch, .int cp, .ref aCells, .ref aPrices, .ref aFree, .ref aPlaces, .ref aHomes, .ref aManners, .ref aGone, .ref aPaid, .ref aBlinks])), (aCells, .inl (cI, 80, .inl fc))] H → va_D A [(vw, .inr (6, [.ref vN, .ref vS, .ref vM, .ref vF])), (vN, .inl (cI, 640, .inl vn)), (vS, .inl (cI, 640, .inl vs)), (vM, .inl (cI, 640, .inl vm)), (vF, .inl (cI, 640, .inl vf)), (ct, .inr (1, [.int cw, .int ch, .int cp, .ref aCells, .ref aPrices, .ref aFree, .ref aPlaces, .ref aHomes, .ref aManners, .ref aGone, .ref aPaid, .ref aBlinks])), (aCells, .inl (cI, 80, .inl fc))] → va_S A s.heap H locs → lv_has ls 4 [(2, .int i), (0, .ref vw), (1, .ref ct)] → W p l e (rmW 4 160 0 0) s m ([.ref vw, .ref ct] : List Value).toArray below meth c H locs 0 0 (MQ below (va_Qv (fun w => (∃ (vn2 : Nat → Int32), ∃ (vs2 : Nat → Int32), ∃ (vm2 : Nat → Int32), ∃ (vf2 : Nat → Int32), (rng vn2 640 (-1) (79)) ∧ (rng vs2 640 (-1) (79)) ∧ (rng vm2 640 (0) (2)) ∧ (rng vf2 640 (0) (6)) ∧ (VWs gg vn2 vs2 vm2 vf2) ∧ w = [(vw, .inr (6, [.ref vN, .ref vS, .ref vM, .ref vF])), (vN, .inl (cI, 640, .inl vn2)), (vS, .inl (cI, 640, .inl vs2)), (vM, .inl (cI, 640, .inl vm2)), (vF, .inl (cI, 640, .inl vf2)), (ct, .inr (1, [.int cw, .int ch, .int cp, .ref aCells, .ref aPrices, .ref aFree, .ref aPlaces, .ref aHomes, .ref aManners, .ref aGone, .ref aPaid, .ref aBlinks])), (aCells, .inl (cI, 80, .inl fc))])) (wD D A) A) ([.ref vw, .ref ct] : List Value).toArray s 0 0 A) (F0 m 22 ls []) := by
  have S : CallFix p m c cX6_draw 4 s ([.ref vw, .ref ct] : List Value).toArray wsX6_draw RX6 := X.1
  intro mN
  induction mN with
  | zero => intro i vn vs vm vf hrg_vn hrg_vs hrg_vm hrg_vf hrg_fc hi hq hm; exact absurd hm (Nat.not_lt_zero _)
  | succ mN ih =>
    intro i vn vs vm vf hrg_vn hrg_vs hrg_vm hrg_vf hrg_fc hi hq hm H locs ls hP hD hS hl
    refine lv_iload_n S.1 S.2.1 dX6_draw_22 rfl (lv_at hl 0 rfl) ?_
    refine lv_bipush (v := (80)) S.1 S.2.1 dX6_draw_23 (by decide) ?_
    refine lv_icmp_ge (tgt := 66) S.1 S.2.1 dX6_draw_25 (by decide) (fun c_301 => ?_) (fun c_301 => ?_)
    · rw [le2 (a := 80) (b := i) (A := 80) (B := i.toInt) rfl rfl] at c_301
      exact K i vn vs vm vf (by first | assumption | omega | decide | (rw [show Int32.toInt 0 = 0 from rfl]; omega)) (by first | assumption | omega | decide | (rw [show Int32.toInt 0 = 0 from rfl]; omega)) (by first | assumption | omega | decide | (rw [show Int32.toInt 0 = 0 from rfl]; omega)) (by first | assumption | omega | decide | (rw [show Int32.toInt 0 = 0 from rfl]; omega)) (by first | assumption | omega | decide | (rw [show Int32.toInt 0 = 0 from rfl]; omega)) (by first | assumption | omega | decide | (rw [show Int32.toInt 0 = 0 from rfl]; omega)) (by first | assumption | exact rdW_n (by assumption) (by omega) (by omega) (by decide)) (by first | assumption | omega | decide | (rw [show Int32.toInt 0 = 0 from rfl]; omega)) H _ ls hP hD hS (lv_sub hl [0, 1, 2] rfl)
    · rw [le2 (a := 80) (b := i) (A := 80) (B := i.toInt) rfl rfl] at c_301
      refine lv_iconst (v := (0)) S.1 S.2.1 dX6_draw_28 (by decide) ?_
      refine lv_istore_n (lv' := [(3, .int 0), (2, .int i), (0, .ref vw), (1, .ref ct)]) S.1 S.2.1 dX6_draw_29 rfl hl (by decide) rfl (fun ls hl => ?_)
      refine lp_draw3 l D cI cZ cC cS sq vw vN vS vM vF ct aCells vn vs vm vf cw ch cp aPrices aFree aPlaces aHomes aManners aGone aPaid aBlinks fc gg hrg_vn hrg_vs hrg_vm hrg_vf hrg_fc hw hh hgc hgb i (by first | assumption | omega | decide | (rw [show Int32.toInt 0 = 0 from rfl]; omega)) X hK hT hA (fun j_302 vn_303 vs_304 vm_305 vf_306 hi_307 hi_308 hi_309 hi_310 hi_311 hi_312 hi_313 hi_314 H locs ls hP hD hS hl => ?_) _ (0) vn vs vm vf (by first | assumption | omega | decide | (rw [show Int32.toInt 0 = 0 from rfl]; omega)) (by first | assumption | omega | decide | (rw [show Int32.toInt 0 = 0 from rfl]; omega)) (by first | assumption | omega | decide | (rw [show Int32.toInt 0 = 0 from rfl]; omega)) (by first | assumption | omega | decide | (rw [show Int32.toInt 0 = 0 from rfl]; omega)) (by first | assumption | omega | decide | (rw [show Int32.toInt 0 = 0 from rfl]; omega)) (by first | assumption | omega | decide | (rw [show Int32.toInt 0 = 0 from rfl]; omega)) (rdW_in (by assumption) (by decide) (by decide)) (Nat.lt_succ_self _) H _ ls hP hD hS (lv_sub hl [0, 1, 2, 3] rfl)
      obtain ⟨x_315, ex_315⟩ : ∃ y : Int32, y = i + Int32.ofInt (1) := ⟨_, rfl⟩
      refine lv_iinc (v := x_315) (lv' := [(2, .int x_315), (3, .int j_302), (0, .ref vw), (1, .ref ct)]) S.1 S.2.1 dX6_draw_60 hl (k := 1) rfl ex_315.symm (by decide) rfl (fun ls hl => ?_)
      have tx_315 : x_315.toInt = i.toInt + (1) := addI (A := i.toInt) (B := 1) ex_315 rfl rfl (by omega) (by omega)
      refine lv_goto (tgt := 22) S.1 S.2.1 dX6_draw_63 (by decide) ?_
      exact ih x_315 vn_303 vs_304 vm_305 vf_306 (by first | assumption | omega | decide | (rw [show Int32.toInt 0 = 0 from rfl]; omega)) (by first | assumption | omega | decide | (rw [show Int32.toInt 0 = 0 from rfl]; omega)) (by first | assumption | omega | decide | (rw [show Int32.toInt 0 = 0 from rfl]; omega)) (by first | assumption | omega | decide | (rw [show Int32.toInt 0 = 0 from rfl]; omega)) (by first | assumption | omega | decide | (rw [show Int32.toInt 0 = 0 from rfl]; omega)) (by first | assumption | omega | decide | (rw [show Int32.toInt 0 = 0 from rfl]; omega)) (by first | assumption | exact rdW_n (by assumption) (by omega) (by omega) (by decide)) (by omega) H _ ls hP hD hS (lv_sub hl [0, 2, 3] rfl)
set_option maxHeartbeats 4000000 in
set_option maxRecDepth 100000 in
theorem s_X6_draw (l : Launch) (D : va_G) (cI cZ cC cS : ClassId) (sq : Nat → Nat) (sz : Nat) (vw : Nat) (vN : Nat) (vS : Nat) (vM : Nat) (vF : Nat) (ct : Nat) (aCells : Nat) (vn : Nat → Int32) (vs : Nat → Int32) (vm : Nat → Int32) (vf : Nat → Int32) (cw : Int32) (ch : Int32) (cp : Int32) (aPrices : Nat) (aFree : Nat) (aPlaces : Nat) (aHomes : Nat) (aManners : Nat) (aGone : Nat) (aPaid : Nat) (aBlinks : Nat) (fc : Nat → Int32) (gg : Nat → Int) (hrg_vn : rng vn 640 (-1) (79)) (hrg_vs : rng vs 640 (-1) (79)) (hrg_vm : rng vm 640 (0) (2)) (hrg_vf : rng vf 640 (0) (6)) (hrg_fc : rng fc 80 (-1) (8)) (hw : 0 ≤ cw.toInt ∧ cw.toInt ≤ 10) (hh : 0 ≤ ch.toInt ∧ ch.toInt ≤ 8) (hgc : GC gg cw.toInt ch.toInt fc) (hgb : gB gg) : mV l yX6_draw wsX6_draw 4 160 0 0 D (tyW cI cZ cC cS) sq [(vw, .inr (6, [.ref vN, .ref vS, .ref vM, .ref vF])), (vN, .inl (cI, 640, .inl vn)), (vS, .inl (cI, 640, .inl vs)), (vM, .inl (cI, 640, .inl vm)), (vF, .inl (cI, 640, .inl vf)), (ct, .inr (1, [.int cw, .int ch, .int cp, .ref aCells, .ref aPrices, .ref aFree, .ref aPlaces, .ref aHomes, .ref aManners, .ref aGone, .ref aPaid, .ref aBlinks])), (aCells, .inl (cI, 80, .inl fc))] sz [.ref vw, .ref ct] (fun w => (∃ (vn2 : Nat → Int32), ∃ (vs2 : Nat → Int32), ∃ (vm2 : Nat → Int32), ∃ (vf2 : Nat → Int32), (rng vn2 640 (-1) (79)) ∧ (rng vs2 640 (-1) (79)) ∧ (rng vm2 640 (0) (2)) ∧ (rng vf2 640 (0) (6)) ∧ (VWs gg vn2 vs2 vm2 vf2) ∧ w = [(vw, .inr (6, [.ref vN, .ref vS, .ref vM, .ref vF])), (vN, .inl (cI, 640, .inl vn2)), (vS, .inl (cI, 640, .inl vs2)), (vM, .inl (cI, 640, .inl vm2)), (vF, .inl (cI, 640, .inl vf2)), (ct, .inr (1, [.int cw, .int ch, .int cp, .ref aCells, .ref aPrices, .ref aFree, .ref aPlaces, .ref aHomes, .ref aManners, .ref aGone, .ref aPaid, .ref aBlinks])), (aCells, .inl (cI, 80, .inl fc))])) := by
  refine b_metV (cc := cX6_draw) (maxL := 4) (ret := none) (by decide) rfl (Nat.le_of_ble_eq_true rfl) ?_
  intro p e s m below meth c ls A H X hsz hP hK hT hD hA hS hl
  have S : CallFix p m c cX6_draw 4 s ([.ref vw, .ref ct] : List Value).toArray wsX6_draw RX6 := X.1
  have hl : lv_has ls 4 [(0, .ref vw), (1, .ref ct)] := hl
  refine lv_iconst (v := (0)) S.1 S.2.1 dX6_draw_0 (by decide) ?_
  refine lv_istore_n (lv' := [(2, .int 0), (0, .ref vw), (1, .ref ct)]) S.1 S.2.1 dX6_draw_1 rfl hl (by decide) rfl (fun ls hl => ?_)
  refine lp_draw1 l D cI cZ cC cS sq vw vN vS vM vF ct aCells vn vs vm vf cw ch cp aPrices aFree aPlaces aHomes aManners aGone aPaid aBlinks fc gg hrg_vn hrg_vs hrg_vm hrg_vf hrg_fc hw hh hgc hgb X hK hT hA (fun i_1 vn_2 vs_3 vm_4 vf_5 hi_6 hi_7 hi_8 hi_9 hi_10 hi_11 hi_12 hi_13 H locs ls hP hD hS hl => ?_) _ (0) vn vs vm vf (by first | assumption | omega | decide | (rw [show Int32.toInt 0 = 0 from rfl]; omega)) (by first | assumption | omega | decide | (rw [show Int32.toInt 0 = 0 from rfl]; omega)) (by first | assumption | omega | decide | (rw [show Int32.toInt 0 = 0 from rfl]; omega)) (by first | assumption | omega | decide | (rw [show Int32.toInt 0 = 0 from rfl]; omega)) (by first | assumption | omega | decide | (rw [show Int32.toInt 0 = 0 from rfl]; omega)) (by first | assumption | omega | decide | (rw [show Int32.toInt 0 = 0 from rfl]; omega)) (dwW_0 (by decide)) (Nat.lt_succ_self _) H _ ls hP hD hS (lv_sub hl [0, 1, 2] rfl)
  refine lv_iconst (v := (0)) S.1 S.2.1 dX6_draw_20 (by decide) ?_
  refine lv_istore_n (lv' := [(2, .int 0), (0, .ref vw), (1, .ref ct)]) S.1 S.2.1 dX6_draw_21 rfl hl (by decide) rfl (fun ls hl => ?_)
  refine lp_draw2 l D cI cZ cC cS sq vw vN vS vM vF ct aCells vn vs vm vf cw ch cp aPrices aFree aPlaces aHomes aManners aGone aPaid aBlinks fc gg hrg_vn hrg_vs hrg_vm hrg_vf hrg_fc hw hh hgc hgb X hK hT hA (fun i_14 vn_15 vs_16 vm_17 vf_18 hi_19 hi_20 hi_21 hi_22 hi_23 hi_24 hi_25 hi_26 H locs ls hP hD hS hl => ?_) _ (0) vn_2 vs_3 vm_4 vf_5 (by first | assumption | omega | decide | (rw [show Int32.toInt 0 = 0 from rfl]; omega)) (by first | assumption | omega | decide | (rw [show Int32.toInt 0 = 0 from rfl]; omega)) (by first | assumption | omega | decide | (rw [show Int32.toInt 0 = 0 from rfl]; omega)) (by first | assumption | omega | decide | (rw [show Int32.toInt 0 = 0 from rfl]; omega)) (by first | assumption | omega | decide | (rw [show Int32.toInt 0 = 0 from rfl]; omega)) (by first | assumption | omega | decide | (rw [show Int32.toInt 0 = 0 from rfl]; omega)) (rdW_0 (by assumption) (by omega) (by decide) (by decide)) (Nat.lt_succ_self _) H _ ls hP hD hS (lv_sub hl [0, 1, 2] rfl)
  exact b_vret S.1 S.2.1 X.2.1 X.2.2.1 hP hD hS ⟨vn_15, vs_16, vm_17, vf_18, (by first | assumption | omega | decide | (rw [show Int32.toInt 0 = 0 from rfl]; omega)), (by first | assumption | omega | decide | (rw [show Int32.toInt 0 = 0 from rfl]; omega)), (by first | assumption | omega | decide | (rw [show Int32.toInt 0 = 0 from rfl]; omega)), (by first | assumption | omega | decide | (rw [show Int32.toInt 0 = 0 from rfl]; omega)), (rdW_end (by assumption) (by omega)), rfl⟩ dX6_draw_66
