set_option maxRecDepth 20000 in
theorem ggX5_advance_X5_readFigures : GoodIn wsX5_advance wsX5_readFigures := goodIn_r _ [13, 1, 4, 5, 14, 3, 15, 16, 17, 18, 19, 20] (by first | exact rfl | decide +kernel) (by decide +kernel)
set_option maxRecDepth 20000 in
theorem gX5_advance_X5_readFigures : GoodIn wsX5_advance (wsV RX5 36 RX5 yX5_readFigures wsX5_readFigures) := goodIn_app (goodIn_r _ [10, 11, 12, 8] (by first | exact rfl | decide +kernel) (by decide +kernel)) ggX5_advance_X5_readFigures
set_option maxRecDepth 20000 in
theorem ggX5_advance_X5_sortOf : GoodIn wsX5_advance wsX5_sortOf := goodIn_r _ [9] (by first | exact rfl | decide +kernel) (by decide +kernel)
set_option maxRecDepth 20000 in
theorem gX5_advance_X5_sortOf : GoodIn wsX5_advance (va_wsS RX5 32 yX5_sortOf wsX5_sortOf) := goodIn_app (goodIn_r _ [6, 7, 8] (by first | exact rfl | decide +kernel) (by decide +kernel)) ggX5_advance_X5_sortOf
set_option maxRecDepth 20000 in
theorem ggX5_rewind_X5_advance : GoodIn wsX5_rewind wsX5_advance := goodIn_r _ [6, 1, 7, 8, 9, 10, 11, 12, 5, 13, 14, 15, 16, 17, 18, 19, 20, 21, 22, 23, 24] (by first | exact rfl | decide +kernel) (by decide +kernel)
set_option maxRecDepth 20000 in
theorem gX5_rewind_X5_advance : GoodIn wsX5_rewind (wsV RX5 29 RX5 yX5_advance wsX5_advance) := goodIn_app (goodIn_r _ [2, 3, 4, 5] (by first | exact rfl | decide +kernel) (by decide +kernel)) ggX5_rewind_X5_advance
set_option maxRecDepth 20000 in
theorem gdX5_advance_0 : decode cX5_advance 0 = .ok (.aload_n 0, 1) ∧ decode cX5_advance 1 = .ok (.getfield 23, 3) ∧ decode cX5_advance 4 = .ok (.aload_n 0, 1) ∧ decode cX5_advance 5 = .ok (.getfield 13, 3) ∧ decode cX5_advance 8 = .ok (.if_icmp .ge 44, 3) ∧ decode cX5_advance 11 = .ok (.aload_n 0, 1) ∧ decode cX5_advance 12 = .ok (.getfield 9, 3) ∧ decode cX5_advance 15 = .ok (.aload_n 0, 1) := by decide +kernel
theorem dX5_advance_0 : decode cX5_advance 0 = .ok (.aload_n 0, 1) := gdX5_advance_0.1
theorem dX5_advance_1 : decode cX5_advance 1 = .ok (.getfield 23, 3) := gdX5_advance_0.2.1
theorem dX5_advance_4 : decode cX5_advance 4 = .ok (.aload_n 0, 1) := gdX5_advance_0.2.2.1
theorem dX5_advance_5 : decode cX5_advance 5 = .ok (.getfield 13, 3) := gdX5_advance_0.2.2.2.1
theorem dX5_advance_8 : decode cX5_advance 8 = .ok (.if_icmp .ge 44, 3) := gdX5_advance_0.2.2.2.2.1
theorem dX5_advance_11 : decode cX5_advance 11 = .ok (.aload_n 0, 1) := gdX5_advance_0.2.2.2.2.2.1
theorem dX5_advance_12 : decode cX5_advance 12 = .ok (.getfield 9, 3) := gdX5_advance_0.2.2.2.2.2.2.1
theorem dX5_advance_15 : decode cX5_advance 15 = .ok (.aload_n 0, 1) := gdX5_advance_0.2.2.2.2.2.2.2
set_option maxRecDepth 20000 in
theorem gdX5_advance_16 : decode cX5_advance 16 = .ok (.getfield 23, 3) ∧ decode cX5_advance 19 = .ok (.iaload, 1) ∧ decode cX5_advance 20 = .ok (.bipush 32, 2) ∧ decode cX5_advance 22 = .ok (.if_icmp .eq 17, 3) ∧ decode cX5_advance 25 = .ok (.aload_n 0, 1) ∧ decode cX5_advance 26 = .ok (.getfield 9, 3) ∧ decode cX5_advance 29 = .ok (.aload_n 0, 1) ∧ decode cX5_advance 30 = .ok (.getfield 23, 3) := by decide +kernel
theorem dX5_advance_16 : decode cX5_advance 16 = .ok (.getfield 23, 3) := gdX5_advance_16.1
theorem dX5_advance_19 : decode cX5_advance 19 = .ok (.iaload, 1) := gdX5_advance_16.2.1
theorem dX5_advance_20 : decode cX5_advance 20 = .ok (.bipush 32, 2) := gdX5_advance_16.2.2.1
theorem dX5_advance_22 : decode cX5_advance 22 = .ok (.if_icmp .eq 17, 3) := gdX5_advance_16.2.2.2.1
theorem dX5_advance_25 : decode cX5_advance 25 = .ok (.aload_n 0, 1) := gdX5_advance_16.2.2.2.2.1
theorem dX5_advance_26 : decode cX5_advance 26 = .ok (.getfield 9, 3) := gdX5_advance_16.2.2.2.2.2.1
theorem dX5_advance_29 : decode cX5_advance 29 = .ok (.aload_n 0, 1) := gdX5_advance_16.2.2.2.2.2.2.1
theorem dX5_advance_30 : decode cX5_advance 30 = .ok (.getfield 23, 3) := gdX5_advance_16.2.2.2.2.2.2.2
set_option maxRecDepth 20000 in
theorem gdX5_advance_33 : decode cX5_advance 33 = .ok (.iaload, 1) ∧ decode cX5_advance 34 = .ok (.bipush 10, 2) ∧ decode cX5_advance 36 = .ok (.if_icmp .ne 16, 3) ∧ decode cX5_advance 39 = .ok (.aload_n 0, 1) ∧ decode cX5_advance 40 = .ok (.dup, 1) ∧ decode cX5_advance 41 = .ok (.getfield 23, 3) ∧ decode cX5_advance 44 = .ok (.iconst 1, 1) ∧ decode cX5_advance 45 = .ok (.iadd, 1) := by decide +kernel
theorem dX5_advance_33 : decode cX5_advance 33 = .ok (.iaload, 1) := gdX5_advance_33.1
theorem dX5_advance_34 : decode cX5_advance 34 = .ok (.bipush 10, 2) := gdX5_advance_33.2.1
theorem dX5_advance_36 : decode cX5_advance 36 = .ok (.if_icmp .ne 16, 3) := gdX5_advance_33.2.2.1
theorem dX5_advance_39 : decode cX5_advance 39 = .ok (.aload_n 0, 1) := gdX5_advance_33.2.2.2.1
theorem dX5_advance_40 : decode cX5_advance 40 = .ok (.dup, 1) := gdX5_advance_33.2.2.2.2.1
theorem dX5_advance_41 : decode cX5_advance 41 = .ok (.getfield 23, 3) := gdX5_advance_33.2.2.2.2.2.1
theorem dX5_advance_44 : decode cX5_advance 44 = .ok (.iconst 1, 1) := gdX5_advance_33.2.2.2.2.2.2.1
theorem dX5_advance_45 : decode cX5_advance 45 = .ok (.iadd, 1) := gdX5_advance_33.2.2.2.2.2.2.2
set_option maxRecDepth 20000 in
theorem gdX5_advance_46 : decode cX5_advance 46 = .ok (.putfield 23, 3) ∧ decode cX5_advance 49 = .ok (.goto (-49), 3) ∧ decode cX5_advance 52 = .ok (.aload_n 0, 1) ∧ decode cX5_advance 53 = .ok (.aload_n 0, 1) ∧ decode cX5_advance 54 = .ok (.getfield 23, 3) ∧ decode cX5_advance 57 = .ok (.putfield 20, 3) ∧ decode cX5_advance 60 = .ok (.aload_n 0, 1) ∧ decode cX5_advance 61 = .ok (.getfield 20, 3) := by decide +kernel
theorem dX5_advance_46 : decode cX5_advance 46 = .ok (.putfield 23, 3) := gdX5_advance_46.1
theorem dX5_advance_49 : decode cX5_advance 49 = .ok (.goto (-49), 3) := gdX5_advance_46.2.1
theorem dX5_advance_52 : decode cX5_advance 52 = .ok (.aload_n 0, 1) := gdX5_advance_46.2.2.1
theorem dX5_advance_53 : decode cX5_advance 53 = .ok (.aload_n 0, 1) := gdX5_advance_46.2.2.2.1
theorem dX5_advance_54 : decode cX5_advance 54 = .ok (.getfield 23, 3) := gdX5_advance_46.2.2.2.2.1
theorem dX5_advance_57 : decode cX5_advance 57 = .ok (.putfield 20, 3) := gdX5_advance_46.2.2.2.2.2.1
theorem dX5_advance_60 : decode cX5_advance 60 = .ok (.aload_n 0, 1) := gdX5_advance_46.2.2.2.2.2.2.1
theorem dX5_advance_61 : decode cX5_advance 61 = .ok (.getfield 20, 3) := gdX5_advance_46.2.2.2.2.2.2.2
set_option maxRecDepth 20000 in
theorem gdX5_advance_64 : decode cX5_advance 64 = .ok (.aload_n 0, 1) ∧ decode cX5_advance 65 = .ok (.getfield 13, 3) ∧ decode cX5_advance 68 = .ok (.if_icmp .lt 9, 3) ∧ decode cX5_advance 71 = .ok (.aload_n 0, 1) ∧ decode cX5_advance 72 = .ok (.iconst 0, 1) ∧ decode cX5_advance 73 = .ok (.putfield 17, 3) ∧ decode cX5_advance 76 = .ok (.return_, 1) ∧ decode cX5_advance 77 = .ok (.aload_n 0, 1) := by decide +kernel
theorem dX5_advance_64 : decode cX5_advance 64 = .ok (.aload_n 0, 1) := gdX5_advance_64.1
theorem dX5_advance_65 : decode cX5_advance 65 = .ok (.getfield 13, 3) := gdX5_advance_64.2.1
theorem dX5_advance_68 : decode cX5_advance 68 = .ok (.if_icmp .lt 9, 3) := gdX5_advance_64.2.2.1
theorem dX5_advance_71 : decode cX5_advance 71 = .ok (.aload_n 0, 1) := gdX5_advance_64.2.2.2.1
theorem dX5_advance_72 : decode cX5_advance 72 = .ok (.iconst 0, 1) := gdX5_advance_64.2.2.2.2.1
theorem dX5_advance_73 : decode cX5_advance 73 = .ok (.putfield 17, 3) := gdX5_advance_64.2.2.2.2.2.1
theorem dX5_advance_76 : decode cX5_advance 76 = .ok (.return_, 1) := gdX5_advance_64.2.2.2.2.2.2.1
theorem dX5_advance_77 : decode cX5_advance 77 = .ok (.aload_n 0, 1) := gdX5_advance_64.2.2.2.2.2.2.2
set_option maxRecDepth 20000 in
theorem gdX5_advance_78 : decode cX5_advance 78 = .ok (.aload_n 0, 1) ∧ decode cX5_advance 79 = .ok (.getfield 9, 3) ∧ decode cX5_advance 82 = .ok (.aload_n 0, 1) ∧ decode cX5_advance 83 = .ok (.getfield 20, 3) ∧ decode cX5_advance 86 = .ok (.iaload, 1) ∧ decode cX5_advance 87 = .ok (.invokestatic 32, 3) ∧ decode cX5_advance 90 = .ok (.putfield 17, 3) ∧ decode cX5_advance 93 = .ok (.aload_n 0, 1) := by decide +kernel
theorem dX5_advance_78 : decode cX5_advance 78 = .ok (.aload_n 0, 1) := gdX5_advance_78.1
theorem dX5_advance_79 : decode cX5_advance 79 = .ok (.getfield 9, 3) := gdX5_advance_78.2.1
theorem dX5_advance_82 : decode cX5_advance 82 = .ok (.aload_n 0, 1) := gdX5_advance_78.2.2.1
theorem dX5_advance_83 : decode cX5_advance 83 = .ok (.getfield 20, 3) := gdX5_advance_78.2.2.2.1
theorem dX5_advance_86 : decode cX5_advance 86 = .ok (.iaload, 1) := gdX5_advance_78.2.2.2.2.1
theorem dX5_advance_87 : decode cX5_advance 87 = .ok (.invokestatic 32, 3) := gdX5_advance_78.2.2.2.2.2.1
theorem dX5_advance_90 : decode cX5_advance 90 = .ok (.putfield 17, 3) := gdX5_advance_78.2.2.2.2.2.2.1
theorem dX5_advance_93 : decode cX5_advance 93 = .ok (.aload_n 0, 1) := gdX5_advance_78.2.2.2.2.2.2.2
set_option maxRecDepth 20000 in
theorem gdX5_advance_94 : decode cX5_advance 94 = .ok (.dup, 1) ∧ decode cX5_advance 95 = .ok (.getfield 23, 3) ∧ decode cX5_advance 98 = .ok (.iconst 1, 1) ∧ decode cX5_advance 99 = .ok (.iadd, 1) ∧ decode cX5_advance 100 = .ok (.putfield 23, 3) ∧ decode cX5_advance 103 = .ok (.aload_n 0, 1) ∧ decode cX5_advance 104 = .ok (.getfield 23, 3) ∧ decode cX5_advance 107 = .ok (.aload_n 0, 1) := by decide +kernel
theorem dX5_advance_94 : decode cX5_advance 94 = .ok (.dup, 1) := gdX5_advance_94.1
theorem dX5_advance_95 : decode cX5_advance 95 = .ok (.getfield 23, 3) := gdX5_advance_94.2.1
theorem dX5_advance_98 : decode cX5_advance 98 = .ok (.iconst 1, 1) := gdX5_advance_94.2.2.1
theorem dX5_advance_99 : decode cX5_advance 99 = .ok (.iadd, 1) := gdX5_advance_94.2.2.2.1
theorem dX5_advance_100 : decode cX5_advance 100 = .ok (.putfield 23, 3) := gdX5_advance_94.2.2.2.2.1
theorem dX5_advance_103 : decode cX5_advance 103 = .ok (.aload_n 0, 1) := gdX5_advance_94.2.2.2.2.2.1
theorem dX5_advance_104 : decode cX5_advance 104 = .ok (.getfield 23, 3) := gdX5_advance_94.2.2.2.2.2.2.1
theorem dX5_advance_107 : decode cX5_advance 107 = .ok (.aload_n 0, 1) := gdX5_advance_94.2.2.2.2.2.2.2
set_option maxRecDepth 20000 in
theorem gdX5_advance_108 : decode cX5_advance 108 = .ok (.getfield 13, 3) ∧ decode cX5_advance 111 = .ok (.if_icmp .ge 51, 3) ∧ decode cX5_advance 114 = .ok (.aload_n 0, 1) ∧ decode cX5_advance 115 = .ok (.getfield 17, 3) ∧ decode cX5_advance 118 = .ok (.iconst 1, 1) ∧ decode cX5_advance 119 = .ok (.if_icmp .eq 11, 3) ∧ decode cX5_advance 122 = .ok (.aload_n 0, 1) ∧ decode cX5_advance 123 = .ok (.getfield 17, 3) := by decide +kernel
theorem dX5_advance_108 : decode cX5_advance 108 = .ok (.getfield 13, 3) := gdX5_advance_108.1
theorem dX5_advance_111 : decode cX5_advance 111 = .ok (.if_icmp .ge 51, 3) := gdX5_advance_108.2.1
theorem dX5_advance_114 : decode cX5_advance 114 = .ok (.aload_n 0, 1) := gdX5_advance_108.2.2.1
theorem dX5_advance_115 : decode cX5_advance 115 = .ok (.getfield 17, 3) := gdX5_advance_108.2.2.2.1
theorem dX5_advance_118 : decode cX5_advance 118 = .ok (.iconst 1, 1) := gdX5_advance_108.2.2.2.2.1
theorem dX5_advance_119 : decode cX5_advance 119 = .ok (.if_icmp .eq 11, 3) := gdX5_advance_108.2.2.2.2.2.1
theorem dX5_advance_122 : decode cX5_advance 122 = .ok (.aload_n 0, 1) := gdX5_advance_108.2.2.2.2.2.2.1
theorem dX5_advance_123 : decode cX5_advance 123 = .ok (.getfield 17, 3) := gdX5_advance_108.2.2.2.2.2.2.2
set_option maxRecDepth 20000 in
theorem gdX5_advance_126 : decode cX5_advance 126 = .ok (.iconst 2, 1) ∧ decode cX5_advance 127 = .ok (.if_icmp .ne 35, 3) ∧ decode cX5_advance 130 = .ok (.aload_n 0, 1) ∧ decode cX5_advance 131 = .ok (.getfield 9, 3) ∧ decode cX5_advance 134 = .ok (.aload_n 0, 1) ∧ decode cX5_advance 135 = .ok (.getfield 23, 3) ∧ decode cX5_advance 138 = .ok (.iaload, 1) ∧ decode cX5_advance 139 = .ok (.invokestatic 32, 3) := by decide +kernel
theorem dX5_advance_126 : decode cX5_advance 126 = .ok (.iconst 2, 1) := gdX5_advance_126.1
theorem dX5_advance_127 : decode cX5_advance 127 = .ok (.if_icmp .ne 35, 3) := gdX5_advance_126.2.1
theorem dX5_advance_130 : decode cX5_advance 130 = .ok (.aload_n 0, 1) := gdX5_advance_126.2.2.1
theorem dX5_advance_131 : decode cX5_advance 131 = .ok (.getfield 9, 3) := gdX5_advance_126.2.2.2.1
theorem dX5_advance_134 : decode cX5_advance 134 = .ok (.aload_n 0, 1) := gdX5_advance_126.2.2.2.2.1
theorem dX5_advance_135 : decode cX5_advance 135 = .ok (.getfield 23, 3) := gdX5_advance_126.2.2.2.2.2.1
theorem dX5_advance_138 : decode cX5_advance 138 = .ok (.iaload, 1) := gdX5_advance_126.2.2.2.2.2.2.1
theorem dX5_advance_139 : decode cX5_advance 139 = .ok (.invokestatic 32, 3) := gdX5_advance_126.2.2.2.2.2.2.2
set_option maxRecDepth 20000 in
theorem gdX5_advance_142 : decode cX5_advance 142 = .ok (.aload_n 0, 1) ∧ decode cX5_advance 143 = .ok (.getfield 17, 3) ∧ decode cX5_advance 146 = .ok (.if_icmp .ne 16, 3) ∧ decode cX5_advance 149 = .ok (.aload_n 0, 1) ∧ decode cX5_advance 150 = .ok (.dup, 1) ∧ decode cX5_advance 151 = .ok (.getfield 23, 3) ∧ decode cX5_advance 154 = .ok (.iconst 1, 1) ∧ decode cX5_advance 155 = .ok (.iadd, 1) := by decide +kernel
theorem dX5_advance_142 : decode cX5_advance 142 = .ok (.aload_n 0, 1) := gdX5_advance_142.1
theorem dX5_advance_143 : decode cX5_advance 143 = .ok (.getfield 17, 3) := gdX5_advance_142.2.1
theorem dX5_advance_146 : decode cX5_advance 146 = .ok (.if_icmp .ne 16, 3) := gdX5_advance_142.2.2.1
theorem dX5_advance_149 : decode cX5_advance 149 = .ok (.aload_n 0, 1) := gdX5_advance_142.2.2.2.1
theorem dX5_advance_150 : decode cX5_advance 150 = .ok (.dup, 1) := gdX5_advance_142.2.2.2.2.1
theorem dX5_advance_151 : decode cX5_advance 151 = .ok (.getfield 23, 3) := gdX5_advance_142.2.2.2.2.2.1
theorem dX5_advance_154 : decode cX5_advance 154 = .ok (.iconst 1, 1) := gdX5_advance_142.2.2.2.2.2.2.1
theorem dX5_advance_155 : decode cX5_advance 155 = .ok (.iadd, 1) := gdX5_advance_142.2.2.2.2.2.2.2
set_option maxRecDepth 20000 in
theorem gdX5_advance_156 : decode cX5_advance 156 = .ok (.putfield 23, 3) ∧ decode cX5_advance 159 = .ok (.goto (-56), 3) ∧ decode cX5_advance 162 = .ok (.aload_n 0, 1) ∧ decode cX5_advance 163 = .ok (.getfield 17, 3) ∧ decode cX5_advance 166 = .ok (.iconst 2, 1) ∧ decode cX5_advance 167 = .ok (.if_icmp .ne 7, 3) ∧ decode cX5_advance 170 = .ok (.aload_n 0, 1) ∧ decode cX5_advance 171 = .ok (.invokevirtual 36, 3) := by decide +kernel
theorem dX5_advance_156 : decode cX5_advance 156 = .ok (.putfield 23, 3) := gdX5_advance_156.1
theorem dX5_advance_159 : decode cX5_advance 159 = .ok (.goto (-56), 3) := gdX5_advance_156.2.1
theorem dX5_advance_162 : decode cX5_advance 162 = .ok (.aload_n 0, 1) := gdX5_advance_156.2.2.1
theorem dX5_advance_163 : decode cX5_advance 163 = .ok (.getfield 17, 3) := gdX5_advance_156.2.2.2.1
theorem dX5_advance_166 : decode cX5_advance 166 = .ok (.iconst 2, 1) := gdX5_advance_156.2.2.2.2.1
theorem dX5_advance_167 : decode cX5_advance 167 = .ok (.if_icmp .ne 7, 3) := gdX5_advance_156.2.2.2.2.2.1
theorem dX5_advance_170 : decode cX5_advance 170 = .ok (.aload_n 0, 1) := gdX5_advance_156.2.2.2.2.2.2.1
theorem dX5_advance_171 : decode cX5_advance 171 = .ok (.invokevirtual 36, 3) := gdX5_advance_156.2.2.2.2.2.2.2
theorem dX5_advance_174 : decode cX5_advance 174 = .ok (.return_, 1) := by decide +kernel
set_option maxRecDepth 20000 in
theorem gdX5_readFigures_0 : decode cX5_readFigures 0 = .ok (.aload_n 0, 1) ∧ decode cX5_readFigures 1 = .ok (.getfield 23, 3) ∧ decode cX5_readFigures 4 = .ok (.aload_n 0, 1) ∧ decode cX5_readFigures 5 = .ok (.getfield 20, 3) ∧ decode cX5_readFigures 8 = .ok (.isub, 1) ∧ decode cX5_readFigures 9 = .ok (.iconst 3, 1) ∧ decode cX5_readFigures 10 = .ok (.if_icmp .le 9, 3) ∧ decode cX5_readFigures 13 = .ok (.aload_n 0, 1) := by decide +kernel
theorem dX5_readFigures_0 : decode cX5_readFigures 0 = .ok (.aload_n 0, 1) := gdX5_readFigures_0.1
theorem dX5_readFigures_1 : decode cX5_readFigures 1 = .ok (.getfield 23, 3) := gdX5_readFigures_0.2.1
theorem dX5_readFigures_4 : decode cX5_readFigures 4 = .ok (.aload_n 0, 1) := gdX5_readFigures_0.2.2.1
theorem dX5_readFigures_5 : decode cX5_readFigures 5 = .ok (.getfield 20, 3) := gdX5_readFigures_0.2.2.2.1
theorem dX5_readFigures_8 : decode cX5_readFigures 8 = .ok (.isub, 1) := gdX5_readFigures_0.2.2.2.2.1
theorem dX5_readFigures_9 : decode cX5_readFigures 9 = .ok (.iconst 3, 1) := gdX5_readFigures_0.2.2.2.2.2.1
theorem dX5_readFigures_10 : decode cX5_readFigures 10 = .ok (.if_icmp .le 9, 3) := gdX5_readFigures_0.2.2.2.2.2.2.1
theorem dX5_readFigures_13 : decode cX5_readFigures 13 = .ok (.aload_n 0, 1) := gdX5_readFigures_0.2.2.2.2.2.2.2
set_option maxRecDepth 20000 in
theorem gdX5_readFigures_14 : decode cX5_readFigures 14 = .ok (.iconst 4, 1) ∧ decode cX5_readFigures 15 = .ok (.putfield 17, 3) ∧ decode cX5_readFigures 18 = .ok (.return_, 1) ∧ decode cX5_readFigures 19 = .ok (.aload_n 0, 1) ∧ decode cX5_readFigures 20 = .ok (.iconst 0, 1) ∧ decode cX5_readFigures 21 = .ok (.putfield 26, 3) ∧ decode cX5_readFigures 24 = .ok (.aload_n 0, 1) ∧ decode cX5_readFigures 25 = .ok (.getfield 20, 3) := by decide +kernel
theorem dX5_readFigures_14 : decode cX5_readFigures 14 = .ok (.iconst 4, 1) := gdX5_readFigures_14.1
theorem dX5_readFigures_15 : decode cX5_readFigures 15 = .ok (.putfield 17, 3) := gdX5_readFigures_14.2.1
theorem dX5_readFigures_18 : decode cX5_readFigures 18 = .ok (.return_, 1) := gdX5_readFigures_14.2.2.1
theorem dX5_readFigures_19 : decode cX5_readFigures 19 = .ok (.aload_n 0, 1) := gdX5_readFigures_14.2.2.2.1
theorem dX5_readFigures_20 : decode cX5_readFigures 20 = .ok (.iconst 0, 1) := gdX5_readFigures_14.2.2.2.2.1
theorem dX5_readFigures_21 : decode cX5_readFigures 21 = .ok (.putfield 26, 3) := gdX5_readFigures_14.2.2.2.2.2.1
theorem dX5_readFigures_24 : decode cX5_readFigures 24 = .ok (.aload_n 0, 1) := gdX5_readFigures_14.2.2.2.2.2.2.1
theorem dX5_readFigures_25 : decode cX5_readFigures 25 = .ok (.getfield 20, 3) := gdX5_readFigures_14.2.2.2.2.2.2.2
set_option maxRecDepth 20000 in
theorem gdX5_readFigures_28 : decode cX5_readFigures 28 = .ok (.istore_n 1, 1) ∧ decode cX5_readFigures 29 = .ok (.iload_n 1, 1) ∧ decode cX5_readFigures 30 = .ok (.aload_n 0, 1) ∧ decode cX5_readFigures 31 = .ok (.getfield 23, 3) ∧ decode cX5_readFigures 34 = .ok (.if_icmp .ge 30, 3) ∧ decode cX5_readFigures 37 = .ok (.aload_n 0, 1) ∧ decode cX5_readFigures 38 = .ok (.aload_n 0, 1) ∧ decode cX5_readFigures 39 = .ok (.getfield 26, 3) := by decide +kernel
theorem dX5_readFigures_28 : decode cX5_readFigures 28 = .ok (.istore_n 1, 1) := gdX5_readFigures_28.1
theorem dX5_readFigures_29 : decode cX5_readFigures 29 = .ok (.iload_n 1, 1) := gdX5_readFigures_28.2.1
theorem dX5_readFigures_30 : decode cX5_readFigures 30 = .ok (.aload_n 0, 1) := gdX5_readFigures_28.2.2.1
theorem dX5_readFigures_31 : decode cX5_readFigures 31 = .ok (.getfield 23, 3) := gdX5_readFigures_28.2.2.2.1
theorem dX5_readFigures_34 : decode cX5_readFigures 34 = .ok (.if_icmp .ge 30, 3) := gdX5_readFigures_28.2.2.2.2.1
theorem dX5_readFigures_37 : decode cX5_readFigures 37 = .ok (.aload_n 0, 1) := gdX5_readFigures_28.2.2.2.2.2.1
theorem dX5_readFigures_38 : decode cX5_readFigures 38 = .ok (.aload_n 0, 1) := gdX5_readFigures_28.2.2.2.2.2.2.1
theorem dX5_readFigures_39 : decode cX5_readFigures 39 = .ok (.getfield 26, 3) := gdX5_readFigures_28.2.2.2.2.2.2.2
set_option maxRecDepth 20000 in
theorem gdX5_readFigures_42 : decode cX5_readFigures 42 = .ok (.bipush 10, 2) ∧ decode cX5_readFigures 44 = .ok (.imul, 1) ∧ decode cX5_readFigures 45 = .ok (.aload_n 0, 1) ∧ decode cX5_readFigures 46 = .ok (.getfield 9, 3) ∧ decode cX5_readFigures 49 = .ok (.iload_n 1, 1) ∧ decode cX5_readFigures 50 = .ok (.iaload, 1) ∧ decode cX5_readFigures 51 = .ok (.iadd, 1) ∧ decode cX5_readFigures 52 = .ok (.bipush 48, 2) := by decide +kernel
theorem dX5_readFigures_42 : decode cX5_readFigures 42 = .ok (.bipush 10, 2) := gdX5_readFigures_42.1
theorem dX5_readFigures_44 : decode cX5_readFigures 44 = .ok (.imul, 1) := gdX5_readFigures_42.2.1
theorem dX5_readFigures_45 : decode cX5_readFigures 45 = .ok (.aload_n 0, 1) := gdX5_readFigures_42.2.2.1
theorem dX5_readFigures_46 : decode cX5_readFigures 46 = .ok (.getfield 9, 3) := gdX5_readFigures_42.2.2.2.1
theorem dX5_readFigures_49 : decode cX5_readFigures 49 = .ok (.iload_n 1, 1) := gdX5_readFigures_42.2.2.2.2.1
theorem dX5_readFigures_50 : decode cX5_readFigures 50 = .ok (.iaload, 1) := gdX5_readFigures_42.2.2.2.2.2.1
theorem dX5_readFigures_51 : decode cX5_readFigures 51 = .ok (.iadd, 1) := gdX5_readFigures_42.2.2.2.2.2.2.1
theorem dX5_readFigures_52 : decode cX5_readFigures 52 = .ok (.bipush 48, 2) := gdX5_readFigures_42.2.2.2.2.2.2.2
set_option maxRecDepth 20000 in
theorem gdX5_readFigures_54 : decode cX5_readFigures 54 = .ok (.isub, 1) ∧ decode cX5_readFigures 55 = .ok (.putfield 26, 3) ∧ decode cX5_readFigures 58 = .ok (.iinc 1 1, 3) ∧ decode cX5_readFigures 61 = .ok (.goto (-32), 3) ∧ decode cX5_readFigures 64 = .ok (.return_, 1) := by decide +kernel
theorem dX5_readFigures_54 : decode cX5_readFigures 54 = .ok (.isub, 1) := gdX5_readFigures_54.1
theorem dX5_readFigures_55 : decode cX5_readFigures 55 = .ok (.putfield 26, 3) := gdX5_readFigures_54.2.1
theorem dX5_readFigures_58 : decode cX5_readFigures 58 = .ok (.iinc 1 1, 3) := gdX5_readFigures_54.2.2.1
theorem dX5_readFigures_61 : decode cX5_readFigures 61 = .ok (.goto (-32), 3) := gdX5_readFigures_54.2.2.2.1
theorem dX5_readFigures_64 : decode cX5_readFigures 64 = .ok (.return_, 1) := gdX5_readFigures_54.2.2.2.2
set_option maxRecDepth 20000 in
theorem gdX5_rewind_0 : decode cX5_rewind 0 = .ok (.aload_n 0, 1) ∧ decode cX5_rewind 1 = .ok (.iconst 0, 1) ∧ decode cX5_rewind 2 = .ok (.putfield 23, 3) ∧ decode cX5_rewind 5 = .ok (.aload_n 0, 1) ∧ decode cX5_rewind 6 = .ok (.invokevirtual 29, 3) ∧ decode cX5_rewind 9 = .ok (.return_, 1) := by decide +kernel
theorem dX5_rewind_0 : decode cX5_rewind 0 = .ok (.aload_n 0, 1) := gdX5_rewind_0.1
theorem dX5_rewind_1 : decode cX5_rewind 1 = .ok (.iconst 0, 1) := gdX5_rewind_0.2.1
theorem dX5_rewind_2 : decode cX5_rewind 2 = .ok (.putfield 23, 3) := gdX5_rewind_0.2.2.1
theorem dX5_rewind_5 : decode cX5_rewind 5 = .ok (.aload_n 0, 1) := gdX5_rewind_0.2.2.2.1
theorem dX5_rewind_6 : decode cX5_rewind 6 = .ok (.invokevirtual 29, 3) := gdX5_rewind_0.2.2.2.2.1
theorem dX5_rewind_9 : decode cX5_rewind 9 = .ok (.return_, 1) := gdX5_rewind_0.2.2.2.2.2
theorem jX5_advance_X5 : ∀ w ∈ u_ws RX5 TX5 6, w ∈ wsX5_advance := fun w h => List.mem_cons_of_mem _ (List.mem_append_right _ h)
theorem jX5_readFigures_X5 : ∀ w ∈ u_ws RX5 TX5 6, w ∈ wsX5_readFigures := fun w h => List.mem_cons_of_mem _ (List.mem_append_right _ h)
theorem jX5_rewind_X5 : ∀ w ∈ u_ws RX5 TX5 6, w ∈ wsX5_rewind := fun w h => List.mem_cons_of_mem _ (List.mem_append_right _ h)
theorem hdS_X5_sortOf : yX5_sortOf.cls ≠ "java/lang/invoke/MethodHandle" ∧ yX5_sortOf.cls ≠ "java/lang/invoke/VarHandle" ∧ (parseMethodDescriptor yX5_sortOf.desc).map (fun d => d.parameters.length) = some 1 := by decide +kernel
theorem hdV_X5_advance : yX5_advance.cls = RX5 ∧ yX5_advance.cls ≠ "java/lang/invoke/MethodHandle" ∧ yX5_advance.cls ≠ "java/lang/invoke/VarHandle" ∧ (parseMethodDescriptor yX5_advance.desc).map (fun d => d.parameters.length) = some 0 := by decide +kernel
theorem hdV_X5_readFigures : yX5_readFigures.cls = RX5 ∧ yX5_readFigures.cls ≠ "java/lang/invoke/MethodHandle" ∧ yX5_readFigures.cls ≠ "java/lang/invoke/VarHandle" ∧ (parseMethodDescriptor yX5_readFigures.desc).map (fun d => d.parameters.length) = some 0 := by decide +kernel
/-- the bytes from one place to another are figures -/
def dgs (f : Nat → Int32) (a b : Int) : Prop := ∀ j : Nat, a ≤ j → (j : Int) < b → 48 ≤ (f j).toInt ∧ (f j).toInt ≤ 57
theorem dgs_get {f : Nat → Int32} {a b : Int} {i x : Int32} (h : dgs f a b) (h0 : 0 ≤ i.toInt) (h1 : a ≤ i.toInt) (h2 : i.toInt < b) (e : x = f i.toNatClampNeg) : 48 ≤ x.toInt ∧ x.toInt ≤ 57 := by
  have h3 : i.toNatClampNeg = i.toInt.toNat := rfl
  rw [e]
  exact h _ (by first | (refine Int.le_antisymm ?_ ?_ <;> omega) | omega) (by first | (refine Int.le_antisymm ?_ ?_ <;> omega) | omega)
theorem dgs_one {f : Nat → Int32} {a : Int} {i x : Int32} (h0 : 0 ≤ i.toInt) (ha : a = i.toInt) (e : x = f i.toNatClampNeg) (hx : 48 ≤ x.toInt ∧ x.toInt ≤ 57) : dgs f a (a + 1) := by
  intro j h1 h2
  have h3 : i.toNatClampNeg = i.toInt.toNat := rfl
  have h4 : j = i.toNatClampNeg := by omega
  rw [h4, ← e]
  exact hx
theorem dgs_ext {f : Nat → Int32} {a b b2 : Int} {i x : Int32} (h : dgs f a b) (h0 : 0 ≤ i.toInt) (hb : b = i.toInt) (hb2 : b2 = b + 1) (e : x = f i.toNatClampNeg) (hx : 48 ≤ x.toInt ∧ x.toInt ≤ 57) : dgs f a b2 := by
  intro j h1 h2
  have h3 : i.toNatClampNeg = i.toInt.toNat := rfl
  rcases Nat.lt_or_ge j i.toNatClampNeg with q | q
  · exact h j h1 (by first | (refine Int.le_antisymm ?_ ?_ <;> omega) | omega)
  · have h4 : j = i.toNatClampNeg := by omega
    rw [h4, ← e]
    exact hx
set_option maxHeartbeats 4000000 in
set_option maxRecDepth 100000 in
theorem lp_readFigures {p : Program} (l : Launch) {e : Env} {s : State} {m : MethodId} {below : List Frame} {meth : Method} {c : Code} (D : va_G) (cI cZ cC cS : ClassId) (sq : Nat → Nat) (tp : Nat) (by_ : Nat) (tz : Int32) (ta : Int32) (tb : Int32) (tv : Int32) (f : Nat → Int32) (hrg_f : rng f 400 (0) (255)) (hz : 0 ≤ ta.toInt ∧ ta.toInt ≤ tb.toInt ∧ tb.toInt ≤ tz.toInt ∧ tz.toInt ≤ 400) (hdg : dgs f ta.toInt tb.toInt) (h3 : tb.toInt ≤ ta.toInt + 3) {A : Nat → Prop} (X : bX p s m meth c cX5_readFigures 2 wsX5_readFigures yX5_readFigures none [.ref tp]) (hK : kW D (tyW cI cZ cC cS) sq s) (hT : sT sq A s s.heap) (hA : ∀ q, s.heap.size ≤ q → A q) (K : ∀ (i : Int32) (v : Int32), (rng f 400 (0) (255)) → (0 ≤ v.toInt ∧ ((i.toInt = ta.toInt ∧ v.toInt = 0) ∨ (i.toInt = ta.toInt + 1 ∧ v.toInt ≤ 9) ∨ (i.toInt = ta.toInt + 2 ∧ v.toInt ≤ 99) ∨ (i.toInt = ta.toInt + 3 ∧ v.toInt ≤ 999))) → (vl (tx f tz.toInt) tb.toInt i.toInt v.toInt = vl (tx f tz.toInt) tb.toInt ta.toInt 0) → (tb.toInt ≤ i.toInt) → ∀ (H : Heap) (locs : List Loc) (ls : Array Slot), va_P D vwCl [(tp, .inr (5, [.ref by_, .int tz, .int 2, .int ta, .int tb, .int v])), (by_, .inl (cI, 400, .inl f))] H → va_D A [(tp, .inr (5, [.ref by_, .int tz, .int 2, .int ta, .int tb, .int v])), (by_, .inl (cI, 400, .inl f))] → va_S A s.heap H locs → lv_has ls 2 [(1, .int i), (0, .ref tp)] → W p l e (rmW 0 0 0 0) s m ([.ref tp] : List Value).toArray below meth c H locs 0 0 (MQ below (va_Qv (fun w => (∃ (ts2 : Int32), ∃ (tv2 : Int32), (ts2.toInt = 2 ∨ ts2.toInt = 4) ∧ (ts2.toInt = 2 → 0 ≤ tv2.toInt ∧ tv2.toInt ≤ 999) ∧ ((ts2.toInt = 4 ∧ 3 < tb.toInt - ta.toInt) ∨ (ts2.toInt = 2 ∧ tb.toInt - ta.toInt ≤ 3 ∧ tv2.toInt = vl (tx f tz.toInt) tb.toInt ta.toInt 0)) ∧ w = [(tp, .inr (5, [.ref by_, .int tz, .int ts2, .int ta, .int tb, .int tv2])), (by_, .inl (cI, 400, .inl f))])) (wD D A) A) ([.ref tp] : List Value).toArray s 0 0 A) (F0 m 64 ls [])) : ∀ (mN : Nat) (i : Int32) (v : Int32), (rng f 400 (0) (255)) → (0 ≤ v.toInt ∧ ((i.toInt = ta.toInt ∧ v.toInt = 0) ∨ (i.toInt = ta.toInt + 1 ∧ v.toInt ≤ 9) ∨ (i.toInt = ta.toInt + 2 ∧ v.toInt ≤ 99) ∨ (i.toInt = ta.toInt + 3 ∧ v.toInt ≤ 999))) → (vl (tx f tz.toInt) tb.toInt i.toInt v.toInt = vl (tx f tz.toInt) tb.toInt ta.toInt 0) → ((401 - i.toInt).toNat < mN) → ∀ (H : Heap) (locs : List Loc) (ls : Array Slot), va_P D vwCl [(tp, .inr (5, [.ref by_, .int tz, .int 2, .int ta, .int tb, .int v])), (by_, .inl (cI, 400, .inl f))] H → va_D A [(tp, .inr (5, [.ref by_, .int tz, .int 2, .int ta, .int tb, .int v])), (by_, .inl (cI, 400, .inl f))] → va_S A s.heap H locs → lv_has ls 2 [(1, .int i), (0, .ref tp)] → W p l e (rmW 0 0 0 0) s m ([.ref tp] : List Value).toArray below meth c H locs 0 0 (MQ below (va_Qv (fun w => (∃ (ts2 : Int32), ∃ (tv2 : Int32), (ts2.toInt = 2 ∨ ts2.toInt = 4) ∧ (ts2.toInt = 2 → 0 ≤ tv2.toInt ∧ tv2.toInt ≤ 999) ∧ ((ts2.toInt = 4 ∧ 3 < tb.toInt - ta.toInt) ∨ (ts2.toInt = 2 ∧ tb.toInt - ta.toInt ≤ 3 ∧ tv2.toInt = vl (tx f tz.toInt) tb.toInt ta.toInt 0)) ∧ w = [(tp, .inr (5, [.ref by_, .int tz, .int ts2, .int ta, .int tb, .int tv2])), (by_, .inl (cI, 400, .inl f))])) (wD D A) A) ([.ref tp] : List Value).toArray s 0 0 A) (F0 m 29 ls []) := by
  have S : CallFix p m c cX5_readFigures 2 s ([.ref tp] : List Value).toArray wsX5_readFigures RX5 := X.1
  have iX5 := jX5_readFigures_X5
  intro mN
  induction mN with
  | zero => intro i v hrg_f hi hvl hm; exact absurd hm (Nat.not_lt_zero _)
  | succ mN ih =>
    intro i v hrg_f hi hvl hm H locs ls hP hD hS hl
    refine lv_iload_n S.1 S.2.1 dX5_readFigures_29 rfl (lv_at hl 0 rfl) ?_
    refine lv_aload_n S.1 S.2.1 dX5_readFigures_30 rfl (lv_at hl 1 rfl) ?_
    refine b_get (v := .int tb) S iX5 hK hP 0 rfl rfl 4 (by decide) (by decide +kernel) rfl dX5_readFigures_31 ?_
    refine lv_icmp_ge (tgt := 64) S.1 S.2.1 dX5_readFigures_34 (by decide) (fun c_101 => ?_) (fun c_101 => ?_)
    · rw [le2 (a := tb) (b := i) (A := tb.toInt) (B := i.toInt) rfl rfl] at c_101
      exact K i v (by first | with_reducible assumption | assumption | omega | decide | (rw [show Int32.toInt 0 = 0 from rfl]; omega)) (by first | with_reducible assumption | (and_intros <;> first | with_reducible assumption | (intros; refine Int.le_antisymm ?_ ?_ <;> omega) | omega) | assumption | decide | (rw [show Int32.toInt 0 = 0 from rfl]; omega)) (by first | assumption | exact vl_st hvl (by first | (refine Int.le_antisymm ?_ ?_ <;> omega) | omega) (by first | (refine Int.le_antisymm ?_ ?_ <;> omega) | omega) (by assumption) (by first | (refine Int.le_antisymm ?_ ?_ <;> omega) | omega)) (by first | with_reducible assumption | (and_intros <;> first | with_reducible assumption | (intros; refine Int.le_antisymm ?_ ?_ <;> omega) | omega) | assumption | decide | (rw [show Int32.toInt 0 = 0 from rfl]; omega)) H _ ls hP hD hS (lv_sub hl [0, 1] rfl)
    · rw [le2 (a := tb) (b := i) (A := tb.toInt) (B := i.toInt) rfl rfl] at c_101
      refine lv_aload_n S.1 S.2.1 dX5_readFigures_37 rfl (lv_at hl 1 rfl) ?_
      refine lv_aload_n S.1 S.2.1 dX5_readFigures_38 rfl (lv_at hl 1 rfl) ?_
      refine b_get (v := .int v) S iX5 hK hP 0 rfl rfl 5 (by decide) (by decide +kernel) rfl dX5_readFigures_39 ?_
      refine lv_bipush (v := (10)) S.1 S.2.1 dX5_readFigures_42 (by decide) ?_
      refine lv_imul S.1 S.2.1 dX5_readFigures_44 ?_
      refine lv_topi (fun x_102 ex_102 => ?_)
      have tx_102 : x_102.toInt = v.toInt * 10 := mulI (A := v.toInt) (B := 10) ex_102 rfl rfl (by  omega) (by  omega)
      refine lv_aload_n S.1 S.2.1 dX5_readFigures_45 rfl (lv_at hl 1 rfl) ?_
      refine b_get (v := .ref by_) S iX5 hK hP 0 rfl rfl 0 (by decide) (by decide +kernel) rfl dX5_readFigures_46 ?_
      refine lv_iload_n S.1 S.2.1 dX5_readFigures_49 rfl (lv_at hl 0 rfl) ?_
      have hin_103 : vp_in i 400 := (in_of (n := 400) (by  omega) (by  omega))
      refine va_iald S.1 S.2.1 hK.1 hP 1 0 rfl rfl hin_103 dX5_readFigures_50 ?_
      refine lv_topi (fun x_104 ex_104 => ?_)
      have tx_104 := rng_get (x := x_104) (show rng f 400 (0) (255) by assumption) hin_103 ex_104
      have gx_104 := dgs_get (i := i) hdg (by first | (refine Int.le_antisymm ?_ ?_ <;> omega) | omega) (by first | (refine Int.le_antisymm ?_ ?_ <;> omega) | omega) (by first | (refine Int.le_antisymm ?_ ?_ <;> omega) | omega) ex_104
      have qx_104 := tx_get (n := tz.toInt) (i := i) (by first | (refine Int.le_antisymm ?_ ?_ <;> omega) | omega) (by first | (refine Int.le_antisymm ?_ ?_ <;> omega) | omega) ex_104
      refine lv_iadd S.1 S.2.1 dX5_readFigures_51 ?_
      refine lv_topi (fun x_105 ex_105 => ?_)
      have tx_105 : x_105.toInt = x_102.toInt + (x_104.toInt) := addI (A := x_102.toInt) (B := x_104.toInt) ex_105 rfl rfl (by  omega) (by  omega)
      refine lv_bipush (v := (48)) S.1 S.2.1 dX5_readFigures_52 (by decide) ?_
      refine lv_isub S.1 S.2.1 dX5_readFigures_54 ?_
      refine lv_topi (fun x_106 ex_106 => ?_)
      have tx_106 : x_106.toInt = x_105.toInt - (48) := subI (A := x_105.toInt) (B := 48) ex_106 rfl rfl (by  omega) (by  omega)
      refine b_put (v := .int x_106) S iX5 tyX5 tyX5_ok nmX5 hK hP hD hS 0 rfl rfl 5 (by decide) (by decide +kernel) rfl rfl rfl (Nat.le_of_ble_eq_true rfl) dX5_readFigures_55 (fun H locs hP hD hS => ?_)
      have hP : va_P D vwCl [(tp, .inr (5, [.ref by_, .int tz, .int 2, .int ta, .int tb, .int x_106])), (by_, .inl (cI, 400, .inl f))] H := hP
      have hD : va_D A [(tp, .inr (5, [.ref by_, .int tz, .int 2, .int ta, .int tb, .int x_106])), (by_, .inl (cI, 400, .inl f))] := hD
      obtain ⟨x_107, ex_107⟩ : ∃ y : Int32, y = i + Int32.ofInt (1) := ⟨_, rfl⟩
      refine lv_iinc (v := x_107) (lv' := [(1, .int x_107), (0, .ref tp)]) S.1 S.2.1 dX5_readFigures_58 hl (k := 0) rfl ex_107.symm (by decide) rfl (fun ls hl => ?_)
      have tx_107 : x_107.toInt = i.toInt + (1) := addI (A := i.toInt) (B := 1) ex_107 rfl rfl (by  omega) (by  omega)
      refine lv_goto (tgt := 29) S.1 S.2.1 dX5_readFigures_61 (by decide) ?_
      exact ih x_107 x_106 (by first | with_reducible assumption | assumption | omega | decide | (rw [show Int32.toInt 0 = 0 from rfl]; omega)) (by first | with_reducible assumption | (and_intros <;> first | with_reducible assumption | (intros; refine Int.le_antisymm ?_ ?_ <;> omega) | omega) | assumption | decide | (rw [show Int32.toInt 0 = 0 from rfl]; omega)) (by first | assumption | exact vl_st hvl (by first | (refine Int.le_antisymm ?_ ?_ <;> omega) | omega) (by first | (refine Int.le_antisymm ?_ ?_ <;> omega) | omega) (by assumption) (by first | (refine Int.le_antisymm ?_ ?_ <;> omega) | omega)) (by first | (refine Int.le_antisymm ?_ ?_ <;> omega) | omega) H _ ls hP hD hS (lv_sub hl [0, 1] rfl)
set_option maxHeartbeats 4000000 in
set_option maxRecDepth 100000 in
theorem s_X5_readFigures (l : Launch) (D : va_G) (cI cZ cC cS : ClassId) (sq : Nat → Nat) (sz : Nat) (tp : Nat) (by_ : Nat) (tz : Int32) (ta : Int32) (tb : Int32) (tv : Int32) (f : Nat → Int32) (hrg_f : rng f 400 (0) (255)) (hz : 0 ≤ ta.toInt ∧ ta.toInt ≤ tb.toInt ∧ tb.toInt ≤ tz.toInt ∧ tz.toInt ≤ 400) (hdg : dgs f ta.toInt tb.toInt) : mV l yX5_readFigures wsX5_readFigures 0 0 0 0 D (tyW cI cZ cC cS) sq [(tp, .inr (5, [.ref by_, .int tz, .int 2, .int ta, .int tb, .int tv])), (by_, .inl (cI, 400, .inl f))] sz [.ref tp] (fun w => (∃ (ts2 : Int32), ∃ (tv2 : Int32), (ts2.toInt = 2 ∨ ts2.toInt = 4) ∧ (ts2.toInt = 2 → 0 ≤ tv2.toInt ∧ tv2.toInt ≤ 999) ∧ ((ts2.toInt = 4 ∧ 3 < tb.toInt - ta.toInt) ∨ (ts2.toInt = 2 ∧ tb.toInt - ta.toInt ≤ 3 ∧ tv2.toInt = vl (tx f tz.toInt) tb.toInt ta.toInt 0)) ∧ w = [(tp, .inr (5, [.ref by_, .int tz, .int ts2, .int ta, .int tb, .int tv2])), (by_, .inl (cI, 400, .inl f))])) := by
  refine b_metV (cc := cX5_readFigures) (maxL := 2) (ret := none) (by decide) rfl (Nat.le_of_ble_eq_true rfl) ?_
  intro p e s m below meth c ls A H X hsz hP hK hT hD hA hS hl
  have S : CallFix p m c cX5_readFigures 2 s ([.ref tp] : List Value).toArray wsX5_readFigures RX5 := X.1
  have hl : lv_has ls 2 [(0, .ref tp)] := hl
  have iX5 := jX5_readFigures_X5
  refine lv_aload_n S.1 S.2.1 dX5_readFigures_0 rfl (lv_at hl 0 rfl) ?_
  refine b_get (v := .int tb) S iX5 hK hP 0 rfl rfl 4 (by decide) (by decide +kernel) rfl dX5_readFigures_1 ?_
  refine lv_aload_n S.1 S.2.1 dX5_readFigures_4 rfl (lv_at hl 0 rfl) ?_
  refine b_get (v := .int ta) S iX5 hK hP 0 rfl rfl 3 (by decide) (by decide +kernel) rfl dX5_readFigures_5 ?_
  refine lv_isub S.1 S.2.1 dX5_readFigures_8 ?_
  refine lv_topi (fun x_1 ex_1 => ?_)
  have tx_1 : x_1.toInt = tb.toInt - (ta.toInt) := subI (A := tb.toInt) (B := ta.toInt) ex_1 rfl rfl (by  omega) (by  omega)
  refine lv_iconst (v := (3)) S.1 S.2.1 dX5_readFigures_9 (by decide) ?_
  refine lv_icmp_le (tgt := 19) S.1 S.2.1 dX5_readFigures_10 (by decide) (fun c_2 => ?_) (fun c_2 => ?_)
  · rw [le2 (a := x_1) (b := 3) (A := x_1.toInt) (B := 3) rfl rfl] at c_2
    refine lv_aload_n S.1 S.2.1 dX5_readFigures_19 rfl (lv_at hl 0 rfl) ?_
    refine lv_iconst (v := (0)) S.1 S.2.1 dX5_readFigures_20 (by decide) ?_
    refine b_put (v := .int 0) S iX5 tyX5 tyX5_ok nmX5 hK hP hD hS 0 rfl rfl 5 (by decide) (by decide +kernel) rfl rfl rfl (Nat.le_of_ble_eq_true rfl) dX5_readFigures_21 (fun H locs hP hD hS => ?_)
    have hP : va_P D vwCl [(tp, .inr (5, [.ref by_, .int tz, .int 2, .int ta, .int tb, .int 0])), (by_, .inl (cI, 400, .inl f))] H := hP
    have hD : va_D A [(tp, .inr (5, [.ref by_, .int tz, .int 2, .int ta, .int tb, .int 0])), (by_, .inl (cI, 400, .inl f))] := hD
    refine lv_aload_n S.1 S.2.1 dX5_readFigures_24 rfl (lv_at hl 0 rfl) ?_
    refine b_get (v := .int ta) S iX5 hK hP 0 rfl rfl 3 (by decide) (by decide +kernel) rfl dX5_readFigures_25 ?_
    refine lv_istore_n (lv' := [(1, .int ta), (0, .ref tp)]) S.1 S.2.1 dX5_readFigures_28 rfl hl (by decide) rfl (fun ls hl => ?_)
    refine lp_readFigures l D cI cZ cC cS sq tp by_ tz ta tb tv f hrg_f hz hdg (by first | with_reducible assumption | (and_intros <;> first | with_reducible assumption | (intros; refine Int.le_antisymm ?_ ?_ <;> omega) | omega) | assumption | decide | (rw [show Int32.toInt 0 = 0 from rfl]; omega)) X hK hT hA (fun i_3 v_4 hi_5 hi_6 hi_7 hi_8 H locs ls hP hD hS hl => ?_) _ ta (0) (by first | with_reducible assumption | assumption | omega | decide | (rw [show Int32.toInt 0 = 0 from rfl]; omega)) (by first | with_reducible assumption | (and_intros <;> first | with_reducible assumption | (intros; refine Int.le_antisymm ?_ ?_ <;> omega) | omega) | assumption | decide | (rw [show Int32.toInt 0 = 0 from rfl]; omega)) rfl (Nat.lt_succ_self _) H _ ls hP hD hS (lv_sub hl [0, 1] rfl)
    have lq2 : Int32.toInt (2) = 2 := by decide
    exact b_vret S.1 S.2.1 X.2.1 X.2.2.1 hP hD hS ⟨(2), v_4, (by first | exact Or.inl rfl | exact Or.inr rfl), (by first | (intro _; omega) | (intro hq; exact absurd hq (by decide))), (by first | exact Or.inl ⟨rfl, by omega⟩ | exact Or.inr ⟨rfl, by omega, (vl_en (by assumption) (by first | (refine Int.le_antisymm ?_ ?_ <;> omega) | omega)).symm⟩), rfl⟩ dX5_readFigures_64
  · rw [le2 (a := x_1) (b := 3) (A := x_1.toInt) (B := 3) rfl rfl] at c_2
    refine lv_aload_n S.1 S.2.1 dX5_readFigures_13 rfl (lv_at hl 0 rfl) ?_
    refine lv_iconst (v := (4)) S.1 S.2.1 dX5_readFigures_14 (by decide) ?_
    refine b_put (v := .int 4) S iX5 tyX5 tyX5_ok nmX5 hK hP hD hS 0 rfl rfl 2 (by decide) (by decide +kernel) rfl rfl rfl (Nat.le_of_ble_eq_true rfl) dX5_readFigures_15 (fun H locs hP hD hS => ?_)
    have hP : va_P D vwCl [(tp, .inr (5, [.ref by_, .int tz, .int 4, .int ta, .int tb, .int tv])), (by_, .inl (cI, 400, .inl f))] H := hP
    have hD : va_D A [(tp, .inr (5, [.ref by_, .int tz, .int 4, .int ta, .int tb, .int tv])), (by_, .inl (cI, 400, .inl f))] := hD
    have lq4 : Int32.toInt (4) = 4 := by decide
    exact b_vret S.1 S.2.1 X.2.1 X.2.2.1 hP hD hS ⟨(4), tv, (by first | exact Or.inl rfl | exact Or.inr rfl), (by first | (intro _; omega) | (intro hq; exact absurd hq (by decide))), (by first | exact Or.inl ⟨rfl, by omega⟩ | exact Or.inr ⟨rfl, by omega, (vl_en (by assumption) (by first | (refine Int.le_antisymm ?_ ?_ <;> omega) | omega)).symm⟩), rfl⟩ dX5_readFigures_18
set_option maxHeartbeats 4000000 in
set_option maxRecDepth 100000 in
theorem lp_advance1 {p : Program} (l : Launch) {e : Env} {s : State} {m : MethodId} {below : List Frame} {meth : Method} {c : Code} (D : va_G) (cI cZ cC cS : ClassId) (sq : Nat → Nat) (tp : Nat) (by_ : Nat) (tz : Int32) (ts : Int32) (ta : Int32) (tb : Int32) (tv : Int32) (f : Nat → Int32) (a0 : Int) (hrg_f : rng f 400 (0) (255)) (hz : 0 ≤ tz.toInt ∧ tz.toInt ≤ 400) (hb : 0 ≤ tb.toInt ∧ tb.toInt ≤ tz.toInt) (ht3 : tok (tx f tz.toInt) a0 ts.toInt ta.toInt tb.toInt tv.toInt) {A : Nat → Prop} (X : bX p s m meth c cX5_advance 1 wsX5_advance yX5_advance none [.ref tp]) (hK : kW D (tyW cI cZ cC cS) sq s) (hT : sT sq A s s.heap) (hA : ∀ q, s.heap.size ≤ q → A q) (K : ∀ (b1 : Int32), (rng f 400 (0) (255)) → (0 ≤ b1.toInt ∧ b1.toInt ≤ tz.toInt) → (tS (tx f tz.toInt) b1.toInt = tS (tx f tz.toInt) tb.toInt) → (tS (tx f tz.toInt) b1.toInt = b1.toInt) → ∀ (H : Heap) (locs : List Loc) (ls : Array Slot), va_P D vwCl [(tp, .inr (5, [.ref by_, .int tz, .int ts, .int ta, .int b1, .int tv])), (by_, .inl (cI, 400, .inl f))] H → va_D A [(tp, .inr (5, [.ref by_, .int tz, .int ts, .int ta, .int b1, .int tv])), (by_, .inl (cI, 400, .inl f))] → va_S A s.heap H locs → lv_has ls 1 [(0, .ref tp)] → W p l e (rmW 1 40 0 0) s m ([.ref tp] : List Value).toArray below meth c H locs 0 0 (MQ below (va_Qv (fun w => (∃ (ts2 : Int32), ∃ (ta2 : Int32), ∃ (tb2 : Int32), ∃ (tv2 : Int32), (0 ≤ ta2.toInt ∧ ta2.toInt ≤ tb2.toInt ∧ tb2.toInt ≤ tz.toInt) ∧ (ts2.toInt = 2 → 0 ≤ tv2.toInt ∧ tv2.toInt ≤ 999) ∧ (tok (tx f tz.toInt) (nx (tx f tz.toInt) a0) ts2.toInt ta2.toInt tb2.toInt tv2.toInt) ∧ w = [(tp, .inr (5, [.ref by_, .int tz, .int ts2, .int ta2, .int tb2, .int tv2])), (by_, .inl (cI, 400, .inl f))])) (wD D A) A) ([.ref tp] : List Value).toArray s 0 0 A) (F0 m 52 ls [])) : ∀ (mN : Nat) (b1 : Int32), (rng f 400 (0) (255)) → (0 ≤ b1.toInt ∧ b1.toInt ≤ tz.toInt) → (tS (tx f tz.toInt) b1.toInt = tS (tx f tz.toInt) tb.toInt) → ((400 - b1.toInt).toNat < mN) → ∀ (H : Heap) (locs : List Loc) (ls : Array Slot), va_P D vwCl [(tp, .inr (5, [.ref by_, .int tz, .int ts, .int ta, .int b1, .int tv])), (by_, .inl (cI, 400, .inl f))] H → va_D A [(tp, .inr (5, [.ref by_, .int tz, .int ts, .int ta, .int b1, .int tv])), (by_, .inl (cI, 400, .inl f))] → va_S A s.heap H locs → lv_has ls 1 [(0, .ref tp)] → W p l e (rmW 1 40 0 0) s m ([.ref tp] : List Value).toArray below meth c H locs 0 0 (MQ below (va_Qv (fun w => (∃ (ts2 : Int32), ∃ (ta2 : Int32), ∃ (tb2 : Int32), ∃ (tv2 : Int32), (0 ≤ ta2.toInt ∧ ta2.toInt ≤ tb2.toInt ∧ tb2.toInt ≤ tz.toInt) ∧ (ts2.toInt = 2 → 0 ≤ tv2.toInt ∧ tv2.toInt ≤ 999) ∧ (tok (tx f tz.toInt) (nx (tx f tz.toInt) a0) ts2.toInt ta2.toInt tb2.toInt tv2.toInt) ∧ w = [(tp, .inr (5, [.ref by_, .int tz, .int ts2, .int ta2, .int tb2, .int tv2])), (by_, .inl (cI, 400, .inl f))])) (wD D A) A) ([.ref tp] : List Value).toArray s 0 0 A) (F0 m 0 ls []) := by
  have S : CallFix p m c cX5_advance 1 s ([.ref tp] : List Value).toArray wsX5_advance RX5 := X.1
  have iX5 := jX5_advance_X5
  intro mN
  induction mN with
  | zero => intro b1 hrg_f hi hs1 hm; exact absurd hm (Nat.not_lt_zero _)
  | succ mN ih =>
    intro b1 hrg_f hi hs1 hm H locs ls hP hD hS hl
    refine lv_aload_n S.1 S.2.1 dX5_advance_0 rfl (lv_at hl 0 rfl) ?_
    refine b_get (v := .int b1) S iX5 hK hP 0 rfl rfl 4 (by decide) (by decide +kernel) rfl dX5_advance_1 ?_
    refine lv_aload_n S.1 S.2.1 dX5_advance_4 rfl (lv_at hl 0 rfl) ?_
    refine b_get (v := .int tz) S iX5 hK hP 0 rfl rfl 1 (by decide) (by decide +kernel) rfl dX5_advance_5 ?_
    refine lv_icmp_ge (tgt := 52) S.1 S.2.1 dX5_advance_8 (by decide) (fun c_101 => ?_) (fun c_101 => ?_)
    · rw [le2 (a := tz) (b := b1) (A := tz.toInt) (B := b1.toInt) rfl rfl] at c_101
      exact K b1 (by first | with_reducible assumption | assumption | omega | decide | (rw [show Int32.toInt 0 = 0 from rfl]; omega)) (by first | with_reducible assumption | (and_intros <;> first | with_reducible assumption | (intros; refine Int.le_antisymm ?_ ?_ <;> omega) | omega) | assumption | decide | (rw [show Int32.toInt 0 = 0 from rfl]; omega)) (by first | assumption | exact tS_bl hs1 (by assumption) (by first | (refine Int.le_antisymm ?_ ?_ <;> omega) | omega) (by first | (refine Int.le_antisymm ?_ ?_ <;> omega) | omega) (by first | (refine Int.le_antisymm ?_ ?_ <;> omega) | omega)) (by first | exact tS_out (by first | (refine Int.le_antisymm ?_ ?_ <;> omega) | omega) | exact tS_ne (by assumption) (by first | (refine Int.le_antisymm ?_ ?_ <;> omega) | omega) (by first | (refine Int.le_antisymm ?_ ?_ <;> omega) | omega)) H _ ls hP hD hS (lv_sub hl [0] rfl)
    · rw [le2 (a := tz) (b := b1) (A := tz.toInt) (B := b1.toInt) rfl rfl] at c_101
      refine lv_aload_n S.1 S.2.1 dX5_advance_11 rfl (lv_at hl 0 rfl) ?_
      refine b_get (v := .ref by_) S iX5 hK hP 0 rfl rfl 0 (by decide) (by decide +kernel) rfl dX5_advance_12 ?_
      refine lv_aload_n S.1 S.2.1 dX5_advance_15 rfl (lv_at hl 0 rfl) ?_
      refine b_get (v := .int b1) S iX5 hK hP 0 rfl rfl 4 (by decide) (by decide +kernel) rfl dX5_advance_16 ?_
      have hin_102 : vp_in b1 400 := (in_of (n := 400) (by  omega) (by  omega))
      refine va_iald S.1 S.2.1 hK.1 hP 1 0 rfl rfl hin_102 dX5_advance_19 ?_
      refine lv_topi (fun x_103 ex_103 => ?_)
      have tx_103 := rng_get (x := x_103) (show rng f 400 (0) (255) by assumption) hin_102 ex_103
      have qx_103 := tx_get (n := tz.toInt) (i := b1) (by first | (refine Int.le_antisymm ?_ ?_ <;> omega) | omega) (by first | (refine Int.le_antisymm ?_ ?_ <;> omega) | omega) ex_103
      refine lv_bipush (v := (32)) S.1 S.2.1 dX5_advance_20 (by decide) ?_
      refine lv_icmp_eq (tgt := 39) S.1 S.2.1 dX5_advance_22 (by decide) (fun c_104 => ?_) (fun c_104 => ?_)
      · rw [eq2 (a := x_103) (b := 32) (A := x_103.toInt) (B := 32) rfl rfl] at c_104
        refine lv_aload_n S.1 S.2.1 dX5_advance_39 rfl (lv_at hl 0 rfl) ?_
        refine lv_dup S.1 S.2.1 dX5_advance_40 rfl ?_
        refine b_get (v := .int b1) S iX5 hK hP 0 rfl rfl 4 (by decide) (by decide +kernel) rfl dX5_advance_41 ?_
        refine lv_iconst (v := (1)) S.1 S.2.1 dX5_advance_44 (by decide) ?_
        refine lv_iadd S.1 S.2.1 dX5_advance_45 ?_
        refine lv_topi (fun x_105 ex_105 => ?_)
        have tx_105 : x_105.toInt = b1.toInt + (1) := addI (A := b1.toInt) (B := 1) ex_105 rfl rfl (by  omega) (by  omega)
        refine b_put (v := .int x_105) S iX5 tyX5 tyX5_ok nmX5 hK hP hD hS 0 rfl rfl 4 (by decide) (by decide +kernel) rfl rfl rfl (Nat.le_of_ble_eq_true rfl) dX5_advance_46 (fun H locs hP hD hS => ?_)
        have hP : va_P D vwCl [(tp, .inr (5, [.ref by_, .int tz, .int ts, .int ta, .int x_105, .int tv])), (by_, .inl (cI, 400, .inl f))] H := hP
        have hD : va_D A [(tp, .inr (5, [.ref by_, .int tz, .int ts, .int ta, .int x_105, .int tv])), (by_, .inl (cI, 400, .inl f))] := hD
        refine lv_goto (tgt := 0) S.1 S.2.1 dX5_advance_49 (by decide) ?_
        exact ih x_105 (by first | with_reducible assumption | assumption | omega | decide | (rw [show Int32.toInt 0 = 0 from rfl]; omega)) (by first | with_reducible assumption | (and_intros <;> first | with_reducible assumption | (intros; refine Int.le_antisymm ?_ ?_ <;> omega) | omega) | assumption | decide | (rw [show Int32.toInt 0 = 0 from rfl]; omega)) (by first | assumption | exact tS_bl hs1 (by assumption) (by first | (refine Int.le_antisymm ?_ ?_ <;> omega) | omega) (by first | (refine Int.le_antisymm ?_ ?_ <;> omega) | omega) (by first | (refine Int.le_antisymm ?_ ?_ <;> omega) | omega)) (by first | (refine Int.le_antisymm ?_ ?_ <;> omega) | omega) H _ ls hP hD hS (lv_sub hl [0] rfl)
      · rw [eq2 (a := x_103) (b := 32) (A := x_103.toInt) (B := 32) rfl rfl] at c_104
        refine lv_aload_n S.1 S.2.1 dX5_advance_25 rfl (lv_at hl 0 rfl) ?_
        refine b_get (v := .ref by_) S iX5 hK hP 0 rfl rfl 0 (by decide) (by decide +kernel) rfl dX5_advance_26 ?_
        refine lv_aload_n S.1 S.2.1 dX5_advance_29 rfl (lv_at hl 0 rfl) ?_
        refine b_get (v := .int b1) S iX5 hK hP 0 rfl rfl 4 (by decide) (by decide +kernel) rfl dX5_advance_30 ?_
        have hin_106 : vp_in b1 400 := (in_of (n := 400) (by  omega) (by  omega))
        refine va_iald S.1 S.2.1 hK.1 hP 1 0 rfl rfl hin_106 dX5_advance_33 ?_
        refine lv_topi (fun x_107 ex_107 => ?_)
        have tx_107 := rng_get (x := x_107) (show rng f 400 (0) (255) by assumption) hin_106 ex_107
        have qx_107 := tx_get (n := tz.toInt) (i := b1) (by first | (refine Int.le_antisymm ?_ ?_ <;> omega) | omega) (by first | (refine Int.le_antisymm ?_ ?_ <;> omega) | omega) ex_107
        have lx_107 : x_107.toInt = x_103.toInt := by rw [ex_107, ex_103]
        refine lv_bipush (v := (10)) S.1 S.2.1 dX5_advance_34 (by decide) ?_
        refine lv_icmp_ne (tgt := 52) S.1 S.2.1 dX5_advance_36 (by decide) (fun c_108 => ?_) (fun c_108 => ?_)
        · rw [eq2 (a := x_107) (b := 10) (A := x_107.toInt) (B := 10) rfl rfl] at c_108
          exact K b1 (by first | with_reducible assumption | assumption | omega | decide | (rw [show Int32.toInt 0 = 0 from rfl]; omega)) (by first | with_reducible assumption | (and_intros <;> first | with_reducible assumption | (intros; refine Int.le_antisymm ?_ ?_ <;> omega) | omega) | assumption | decide | (rw [show Int32.toInt 0 = 0 from rfl]; omega)) (by first | assumption | exact tS_bl hs1 (by assumption) (by first | (refine Int.le_antisymm ?_ ?_ <;> omega) | omega) (by first | (refine Int.le_antisymm ?_ ?_ <;> omega) | omega) (by first | (refine Int.le_antisymm ?_ ?_ <;> omega) | omega)) (by first | exact tS_out (by first | (refine Int.le_antisymm ?_ ?_ <;> omega) | omega) | exact tS_ne (by assumption) (by first | (refine Int.le_antisymm ?_ ?_ <;> omega) | omega) (by first | (refine Int.le_antisymm ?_ ?_ <;> omega) | omega)) H _ ls hP hD hS (lv_sub hl [0] rfl)
        · rw [eq2 (a := x_107) (b := 10) (A := x_107.toInt) (B := 10) rfl rfl] at c_108
          refine lv_aload_n S.1 S.2.1 dX5_advance_39 rfl (lv_at hl 0 rfl) ?_
          refine lv_dup S.1 S.2.1 dX5_advance_40 rfl ?_
          refine b_get (v := .int b1) S iX5 hK hP 0 rfl rfl 4 (by decide) (by decide +kernel) rfl dX5_advance_41 ?_
          refine lv_iconst (v := (1)) S.1 S.2.1 dX5_advance_44 (by decide) ?_
          refine lv_iadd S.1 S.2.1 dX5_advance_45 ?_
          refine lv_topi (fun x_109 ex_109 => ?_)
          have tx_109 : x_109.toInt = b1.toInt + (1) := addI (A := b1.toInt) (B := 1) ex_109 rfl rfl (by  omega) (by  omega)
          refine b_put (v := .int x_109) S iX5 tyX5 tyX5_ok nmX5 hK hP hD hS 0 rfl rfl 4 (by decide) (by decide +kernel) rfl rfl rfl (Nat.le_of_ble_eq_true rfl) dX5_advance_46 (fun H locs hP hD hS => ?_)
          have hP : va_P D vwCl [(tp, .inr (5, [.ref by_, .int tz, .int ts, .int ta, .int x_109, .int tv])), (by_, .inl (cI, 400, .inl f))] H := hP
          have hD : va_D A [(tp, .inr (5, [.ref by_, .int tz, .int ts, .int ta, .int x_109, .int tv])), (by_, .inl (cI, 400, .inl f))] := hD
          refine lv_goto (tgt := 0) S.1 S.2.1 dX5_advance_49 (by decide) ?_
          exact ih x_109 (by first | with_reducible assumption | assumption | omega | decide | (rw [show Int32.toInt 0 = 0 from rfl]; omega)) (by first | with_reducible assumption | (and_intros <;> first | with_reducible assumption | (intros; refine Int.le_antisymm ?_ ?_ <;> omega) | omega) | assumption | decide | (rw [show Int32.toInt 0 = 0 from rfl]; omega)) (by first | assumption | exact tS_bl hs1 (by assumption) (by first | (refine Int.le_antisymm ?_ ?_ <;> omega) | omega) (by first | (refine Int.le_antisymm ?_ ?_ <;> omega) | omega) (by first | (refine Int.le_antisymm ?_ ?_ <;> omega) | omega)) (by first | (refine Int.le_antisymm ?_ ?_ <;> omega) | omega) H _ ls hP hD hS (lv_sub hl [0] rfl)
set_option maxHeartbeats 4000000 in
set_option maxRecDepth 100000 in
theorem lp_advance2 {p : Program} (l : Launch) {e : Env} {s : State} {m : MethodId} {below : List Frame} {meth : Method} {c : Code} (D : va_G) (cI cZ cC cS : ClassId) (sq : Nat → Nat) (tp : Nat) (by_ : Nat) (tz : Int32) (ts : Int32) (ta : Int32) (tb : Int32) (tv : Int32) (f : Nat → Int32) (a0 : Int) (hrg_f : rng f 400 (0) (255)) (hz : 0 ≤ tz.toInt ∧ tz.toInt ≤ 400) (hb : 0 ≤ tb.toInt ∧ tb.toInt ≤ tz.toInt) (ht3 : tok (tx f tz.toInt) a0 ts.toInt ta.toInt tb.toInt tv.toInt) (s1 : Int32) (a1 : Int32) (ha1 : 0 ≤ a1.toInt) {A : Nat → Prop} (X : bX p s m meth c cX5_advance 1 wsX5_advance yX5_advance none [.ref tp]) (hK : kW D (tyW cI cZ cC cS) sq s) (hT : sT sq A s s.heap) (hA : ∀ q, s.heap.size ≤ q → A q) (K : ∀ (b2 : Int32), (rng f 400 (0) (255)) → (a1.toInt < b2.toInt ∧ b2.toInt ≤ tz.toInt) → (s1.toInt = 2 → dgs f a1.toInt b2.toInt) → (ee (tx f tz.toInt) s1.toInt b2.toInt = ee (tx f tz.toInt) s1.toInt (a1.toInt + 1)) → (ee (tx f tz.toInt) s1.toInt b2.toInt = b2.toInt) → ∀ (H : Heap) (locs : List Loc) (ls : Array Slot), va_P D vwCl [(tp, .inr (5, [.ref by_, .int tz, .int s1, .int a1, .int b2, .int tv])), (by_, .inl (cI, 400, .inl f))] H → va_D A [(tp, .inr (5, [.ref by_, .int tz, .int s1, .int a1, .int b2, .int tv])), (by_, .inl (cI, 400, .inl f))] → va_S A s.heap H locs → lv_has ls 1 [(0, .ref tp)] → W p l e (rmW 1 40 0 0) s m ([.ref tp] : List Value).toArray below meth c H locs 0 0 (MQ below (va_Qv (fun w => (∃ (ts2 : Int32), ∃ (ta2 : Int32), ∃ (tb2 : Int32), ∃ (tv2 : Int32), (0 ≤ ta2.toInt ∧ ta2.toInt ≤ tb2.toInt ∧ tb2.toInt ≤ tz.toInt) ∧ (ts2.toInt = 2 → 0 ≤ tv2.toInt ∧ tv2.toInt ≤ 999) ∧ (tok (tx f tz.toInt) (nx (tx f tz.toInt) a0) ts2.toInt ta2.toInt tb2.toInt tv2.toInt) ∧ w = [(tp, .inr (5, [.ref by_, .int tz, .int ts2, .int ta2, .int tb2, .int tv2])), (by_, .inl (cI, 400, .inl f))])) (wD D A) A) ([.ref tp] : List Value).toArray s 0 0 A) (F0 m 162 ls [])) : ∀ (mN : Nat) (b2 : Int32), (rng f 400 (0) (255)) → (a1.toInt < b2.toInt ∧ b2.toInt ≤ tz.toInt) → (s1.toInt = 2 → dgs f a1.toInt b2.toInt) → (ee (tx f tz.toInt) s1.toInt b2.toInt = ee (tx f tz.toInt) s1.toInt (a1.toInt + 1)) → ((400 - b2.toInt).toNat < mN) → ∀ (H : Heap) (locs : List Loc) (ls : Array Slot), va_P D vwCl [(tp, .inr (5, [.ref by_, .int tz, .int s1, .int a1, .int b2, .int tv])), (by_, .inl (cI, 400, .inl f))] H → va_D A [(tp, .inr (5, [.ref by_, .int tz, .int s1, .int a1, .int b2, .int tv])), (by_, .inl (cI, 400, .inl f))] → va_S A s.heap H locs → lv_has ls 1 [(0, .ref tp)] → W p l e (rmW 1 40 0 0) s m ([.ref tp] : List Value).toArray below meth c H locs 0 0 (MQ below (va_Qv (fun w => (∃ (ts2 : Int32), ∃ (ta2 : Int32), ∃ (tb2 : Int32), ∃ (tv2 : Int32), (0 ≤ ta2.toInt ∧ ta2.toInt ≤ tb2.toInt ∧ tb2.toInt ≤ tz.toInt) ∧ (ts2.toInt = 2 → 0 ≤ tv2.toInt ∧ tv2.toInt ≤ 999) ∧ (tok (tx f tz.toInt) (nx (tx f tz.toInt) a0) ts2.toInt ta2.toInt tb2.toInt tv2.toInt) ∧ w = [(tp, .inr (5, [.ref by_, .int tz, .int ts2, .int ta2, .int tb2, .int tv2])), (by_, .inl (cI, 400, .inl f))])) (wD D A) A) ([.ref tp] : List Value).toArray s 0 0 A) (F0 m 103 ls []) := by
  have S : CallFix p m c cX5_advance 1 s ([.ref tp] : List Value).toArray wsX5_advance RX5 := X.1
  have iX5 := jX5_advance_X5
  intro mN
  induction mN with
  | zero => intro b2 hrg_f hi hd he hm; exact absurd hm (Nat.not_lt_zero _)
  | succ mN ih =>
    intro b2 hrg_f hi hd he hm H locs ls hP hD hS hl
    refine lv_aload_n S.1 S.2.1 dX5_advance_103 rfl (lv_at hl 0 rfl) ?_
    refine b_get (v := .int b2) S iX5 hK hP 0 rfl rfl 4 (by decide) (by decide +kernel) rfl dX5_advance_104 ?_
    refine lv_aload_n S.1 S.2.1 dX5_advance_107 rfl (lv_at hl 0 rfl) ?_
    refine b_get (v := .int tz) S iX5 hK hP 0 rfl rfl 1 (by decide) (by decide +kernel) rfl dX5_advance_108 ?_
    refine lv_icmp_ge (tgt := 162) S.1 S.2.1 dX5_advance_111 (by decide) (fun c_201 => ?_) (fun c_201 => ?_)
    · rw [le2 (a := tz) (b := b2) (A := tz.toInt) (B := b2.toInt) rfl rfl] at c_201
      exact K b2 (by first | with_reducible assumption | assumption | omega | decide | (rw [show Int32.toInt 0 = 0 from rfl]; omega)) (by first | with_reducible assumption | (and_intros <;> first | with_reducible assumption | (intros; refine Int.le_antisymm ?_ ?_ <;> omega) | omega) | assumption | decide | (rw [show Int32.toInt 0 = 0 from rfl]; omega)) (by first | assumption | (intro hq; exact absurd hq (by first | omega | decide)) | (intro _; exact dgs_ext (hd (by assumption)) (by first | (refine Int.le_antisymm ?_ ?_ <;> omega) | omega) rfl (by first | (refine Int.le_antisymm ?_ ?_ <;> omega) | omega) (by assumption) (by assumption)) | (intro _; exact dgs_ext (hd (by first | (refine Int.le_antisymm ?_ ?_ <;> omega) | omega)) (by first | (refine Int.le_antisymm ?_ ?_ <;> omega) | omega) rfl (by first | (refine Int.le_antisymm ?_ ?_ <;> omega) | omega) (by assumption) (by assumption))) (by first | assumption | exact ee_go he (by assumption) (by first | (refine Int.le_antisymm ?_ ?_ <;> omega) | omega) (by first | (refine Int.le_antisymm ?_ ?_ <;> omega) | omega) (by first | (refine Int.le_antisymm ?_ ?_ <;> omega) | omega) (by first | (refine Int.le_antisymm ?_ ?_ <;> omega) | omega)) (by first | exact ee_outs (by first | (refine Int.le_antisymm ?_ ?_ <;> omega) | omega) | exact ee_st (by first | (refine Int.le_antisymm ?_ ?_ <;> omega) | omega) | exact ee_no (by assumption) (by first | (refine Int.le_antisymm ?_ ?_ <;> omega) | omega)) H _ ls hP hD hS (lv_sub hl [0] rfl)
    · rw [le2 (a := tz) (b := b2) (A := tz.toInt) (B := b2.toInt) rfl rfl] at c_201
      refine lv_aload_n S.1 S.2.1 dX5_advance_114 rfl (lv_at hl 0 rfl) ?_
      refine b_get (v := .int s1) S iX5 hK hP 0 rfl rfl 2 (by decide) (by decide +kernel) rfl dX5_advance_115 ?_
      refine lv_iconst (v := (1)) S.1 S.2.1 dX5_advance_118 (by decide) ?_
      refine lv_icmp_eq (tgt := 130) S.1 S.2.1 dX5_advance_119 (by decide) (fun c_202 => ?_) (fun c_202 => ?_)
      · rw [eq2 (a := s1) (b := 1) (A := s1.toInt) (B := 1) rfl rfl] at c_202
        refine lv_aload_n S.1 S.2.1 dX5_advance_130 rfl (lv_at hl 0 rfl) ?_
        refine b_get (v := .ref by_) S iX5 hK hP 0 rfl rfl 0 (by decide) (by decide +kernel) rfl dX5_advance_131 ?_
        refine lv_aload_n S.1 S.2.1 dX5_advance_134 rfl (lv_at hl 0 rfl) ?_
        refine b_get (v := .int b2) S iX5 hK hP 0 rfl rfl 4 (by decide) (by decide +kernel) rfl dX5_advance_135 ?_
        have hin_203 : vp_in b2 400 := (in_of (n := 400) (by  omega) (by  omega))
        refine va_iald S.1 S.2.1 hK.1 hP 1 0 rfl rfl hin_203 dX5_advance_138 ?_
        refine lv_topi (fun x_204 ex_204 => ?_)
        have tx_204 := rng_get (x := x_204) (show rng f 400 (0) (255) by assumption) hin_203 ex_204
        have qx_204 := tx_get (n := tz.toInt) (i := b2) (by first | (refine Int.le_antisymm ?_ ?_ <;> omega) | omega) (by first | (refine Int.le_antisymm ?_ ?_ <;> omega) | omega) ex_204
        refine b_ai (wr := [(tp, .inr (5, [.ref by_, .int tz, .int s1, .int a1, .int b2, .int tv])), (by_, .inl (cI, 400, .inl f))]) (b_runS (As := [.int x_204]) (s_X5_sortOf l D cI cZ cC cS sq H.size x_204) S gX5_advance_X5_sortOf rfl hdS_X5_sortOf ⟨Nat.le_of_ble_eq_true rfl, Nat.le_of_ble_eq_true rfl⟩ ⟨Nat.le_of_ble_eq_true rfl, Nat.le_of_ble_eq_true rfl⟩ hK hT hS hA hP hD [] rfl (by decide) rfl hl.1 rfl (Nat.le_of_ble_eq_true rfl) dX5_advance_139) hP hD hS hA [] [0, 1] rfl rfl (by decide) (by decide) (fun r_205 w_206 H locs hw_207 hP hD hS => ?_)
        rcases hw_207 with ⟨hf_208, rfl, rfl⟩ | ⟨hf_209, hf_210, rfl, rfl⟩ | ⟨hf_211, rfl, rfl⟩ | ⟨hf_212, rfl, rfl⟩
        · have hP : va_P D vwCl [(tp, .inr (5, [.ref by_, .int tz, .int s1, .int a1, .int b2, .int tv])), (by_, .inl (cI, 400, .inl f))] H := hP
          have hD : va_D A [(tp, .inr (5, [.ref by_, .int tz, .int s1, .int a1, .int b2, .int tv])), (by_, .inl (cI, 400, .inl f))] := hD
          refine lv_aload_n S.1 S.2.1 dX5_advance_142 rfl (lv_at hl 0 rfl) ?_
          refine b_get (v := .int s1) S iX5 hK hP 0 rfl rfl 2 (by decide) (by decide +kernel) rfl dX5_advance_143 ?_
          refine lv_icmp_ne (tgt := 162) S.1 S.2.1 dX5_advance_146 (by decide) (fun c_213 => ?_) (fun c_213 => ?_)
          · rw [eq2 (a := 1) (b := s1) (A := 1) (B := s1.toInt) rfl rfl] at c_213
            exact K b2 (by first | with_reducible assumption | assumption | omega | decide | (rw [show Int32.toInt 0 = 0 from rfl]; omega)) (by first | with_reducible assumption | (and_intros <;> first | with_reducible assumption | (intros; refine Int.le_antisymm ?_ ?_ <;> omega) | omega) | assumption | decide | (rw [show Int32.toInt 0 = 0 from rfl]; omega)) (by first | assumption | (intro hq; exact absurd hq (by first | omega | decide)) | (intro _; exact dgs_ext (hd (by assumption)) (by first | (refine Int.le_antisymm ?_ ?_ <;> omega) | omega) rfl (by first | (refine Int.le_antisymm ?_ ?_ <;> omega) | omega) (by assumption) (by assumption)) | (intro _; exact dgs_ext (hd (by first | (refine Int.le_antisymm ?_ ?_ <;> omega) | omega)) (by first | (refine Int.le_antisymm ?_ ?_ <;> omega) | omega) rfl (by first | (refine Int.le_antisymm ?_ ?_ <;> omega) | omega) (by assumption) (by assumption))) (by first | assumption | exact ee_go he (by assumption) (by first | (refine Int.le_antisymm ?_ ?_ <;> omega) | omega) (by first | (refine Int.le_antisymm ?_ ?_ <;> omega) | omega) (by first | (refine Int.le_antisymm ?_ ?_ <;> omega) | omega) (by first | (refine Int.le_antisymm ?_ ?_ <;> omega) | omega)) (by first | exact ee_outs (by first | (refine Int.le_antisymm ?_ ?_ <;> omega) | omega) | exact ee_st (by first | (refine Int.le_antisymm ?_ ?_ <;> omega) | omega) | exact ee_no (by assumption) (by first | (refine Int.le_antisymm ?_ ?_ <;> omega) | omega)) H _ ls hP hD hS (lv_sub hl [0] rfl)
          · rw [eq2 (a := 1) (b := s1) (A := 1) (B := s1.toInt) rfl rfl] at c_213
            refine lv_aload_n S.1 S.2.1 dX5_advance_149 rfl (lv_at hl 0 rfl) ?_
            refine lv_dup S.1 S.2.1 dX5_advance_150 rfl ?_
            refine b_get (v := .int b2) S iX5 hK hP 0 rfl rfl 4 (by decide) (by decide +kernel) rfl dX5_advance_151 ?_
            refine lv_iconst (v := (1)) S.1 S.2.1 dX5_advance_154 (by decide) ?_
            refine lv_iadd S.1 S.2.1 dX5_advance_155 ?_
            refine lv_topi (fun x_214 ex_214 => ?_)
            have tx_214 : x_214.toInt = b2.toInt + (1) := addI (A := b2.toInt) (B := 1) ex_214 rfl rfl (by  omega) (by  omega)
            refine b_put (v := .int x_214) S iX5 tyX5 tyX5_ok nmX5 hK hP hD hS 0 rfl rfl 4 (by decide) (by decide +kernel) rfl rfl rfl (Nat.le_of_ble_eq_true rfl) dX5_advance_156 (fun H locs hP hD hS => ?_)
            have hP : va_P D vwCl [(tp, .inr (5, [.ref by_, .int tz, .int s1, .int a1, .int x_214, .int tv])), (by_, .inl (cI, 400, .inl f))] H := hP
            have hD : va_D A [(tp, .inr (5, [.ref by_, .int tz, .int s1, .int a1, .int x_214, .int tv])), (by_, .inl (cI, 400, .inl f))] := hD
            refine lv_goto (tgt := 103) S.1 S.2.1 dX5_advance_159 (by decide) ?_
            exact ih x_214 (by first | with_reducible assumption | assumption | omega | decide | (rw [show Int32.toInt 0 = 0 from rfl]; omega)) (by first | with_reducible assumption | (and_intros <;> first | with_reducible assumption | (intros; refine Int.le_antisymm ?_ ?_ <;> omega) | omega) | assumption | decide | (rw [show Int32.toInt 0 = 0 from rfl]; omega)) (by first | assumption | (intro hq; exact absurd hq (by first | omega | decide)) | (intro _; exact dgs_ext (hd (by assumption)) (by first | (refine Int.le_antisymm ?_ ?_ <;> omega) | omega) rfl (by first | (refine Int.le_antisymm ?_ ?_ <;> omega) | omega) (by assumption) (by assumption)) | (intro _; exact dgs_ext (hd (by first | (refine Int.le_antisymm ?_ ?_ <;> omega) | omega)) (by first | (refine Int.le_antisymm ?_ ?_ <;> omega) | omega) rfl (by first | (refine Int.le_antisymm ?_ ?_ <;> omega) | omega) (by assumption) (by assumption))) (by first | assumption | exact ee_go he (by assumption) (by first | (refine Int.le_antisymm ?_ ?_ <;> omega) | omega) (by first | (refine Int.le_antisymm ?_ ?_ <;> omega) | omega) (by first | (refine Int.le_antisymm ?_ ?_ <;> omega) | omega) (by first | (refine Int.le_antisymm ?_ ?_ <;> omega) | omega)) (by first | (refine Int.le_antisymm ?_ ?_ <;> omega) | omega) H _ ls hP hD hS (lv_sub hl [0] rfl)
        · have hP : va_P D vwCl [(tp, .inr (5, [.ref by_, .int tz, .int s1, .int a1, .int b2, .int tv])), (by_, .inl (cI, 400, .inl f))] H := hP
          have hD : va_D A [(tp, .inr (5, [.ref by_, .int tz, .int s1, .int a1, .int b2, .int tv])), (by_, .inl (cI, 400, .inl f))] := hD
          refine lv_aload_n S.1 S.2.1 dX5_advance_142 rfl (lv_at hl 0 rfl) ?_
          refine b_get (v := .int s1) S iX5 hK hP 0 rfl rfl 2 (by decide) (by decide +kernel) rfl dX5_advance_143 ?_
          refine lv_icmp_ne (tgt := 162) S.1 S.2.1 dX5_advance_146 (by decide) (fun c_215 => ?_) (fun c_215 => ?_)
          · rw [eq2 (a := 2) (b := s1) (A := 2) (B := s1.toInt) rfl rfl] at c_215
            exact K b2 (by first | with_reducible assumption | assumption | omega | decide | (rw [show Int32.toInt 0 = 0 from rfl]; omega)) (by first | with_reducible assumption | (and_intros <;> first | with_reducible assumption | (intros; refine Int.le_antisymm ?_ ?_ <;> omega) | omega) | assumption | decide | (rw [show Int32.toInt 0 = 0 from rfl]; omega)) (by first | assumption | (intro hq; exact absurd hq (by first | omega | decide)) | (intro _; exact dgs_ext (hd (by assumption)) (by first | (refine Int.le_antisymm ?_ ?_ <;> omega) | omega) rfl (by first | (refine Int.le_antisymm ?_ ?_ <;> omega) | omega) (by assumption) (by assumption)) | (intro _; exact dgs_ext (hd (by first | (refine Int.le_antisymm ?_ ?_ <;> omega) | omega)) (by first | (refine Int.le_antisymm ?_ ?_ <;> omega) | omega) rfl (by first | (refine Int.le_antisymm ?_ ?_ <;> omega) | omega) (by assumption) (by assumption))) (by first | assumption | exact ee_go he (by assumption) (by first | (refine Int.le_antisymm ?_ ?_ <;> omega) | omega) (by first | (refine Int.le_antisymm ?_ ?_ <;> omega) | omega) (by first | (refine Int.le_antisymm ?_ ?_ <;> omega) | omega) (by first | (refine Int.le_antisymm ?_ ?_ <;> omega) | omega)) (by first | exact ee_outs (by first | (refine Int.le_antisymm ?_ ?_ <;> omega) | omega) | exact ee_st (by first | (refine Int.le_antisymm ?_ ?_ <;> omega) | omega) | exact ee_no (by assumption) (by first | (refine Int.le_antisymm ?_ ?_ <;> omega) | omega)) H _ ls hP hD hS (lv_sub hl [0] rfl)
          · rw [eq2 (a := 2) (b := s1) (A := 2) (B := s1.toInt) rfl rfl] at c_215
            refine lv_aload_n S.1 S.2.1 dX5_advance_149 rfl (lv_at hl 0 rfl) ?_
            refine lv_dup S.1 S.2.1 dX5_advance_150 rfl ?_
            refine b_get (v := .int b2) S iX5 hK hP 0 rfl rfl 4 (by decide) (by decide +kernel) rfl dX5_advance_151 ?_
            refine lv_iconst (v := (1)) S.1 S.2.1 dX5_advance_154 (by decide) ?_
            refine lv_iadd S.1 S.2.1 dX5_advance_155 ?_
            refine lv_topi (fun x_216 ex_216 => ?_)
            have tx_216 : x_216.toInt = b2.toInt + (1) := addI (A := b2.toInt) (B := 1) ex_216 rfl rfl (by  omega) (by  omega)
            refine b_put (v := .int x_216) S iX5 tyX5 tyX5_ok nmX5 hK hP hD hS 0 rfl rfl 4 (by decide) (by decide +kernel) rfl rfl rfl (Nat.le_of_ble_eq_true rfl) dX5_advance_156 (fun H locs hP hD hS => ?_)
            have hP : va_P D vwCl [(tp, .inr (5, [.ref by_, .int tz, .int s1, .int a1, .int x_216, .int tv])), (by_, .inl (cI, 400, .inl f))] H := hP
            have hD : va_D A [(tp, .inr (5, [.ref by_, .int tz, .int s1, .int a1, .int x_216, .int tv])), (by_, .inl (cI, 400, .inl f))] := hD
            refine lv_goto (tgt := 103) S.1 S.2.1 dX5_advance_159 (by decide) ?_
            exact ih x_216 (by first | with_reducible assumption | assumption | omega | decide | (rw [show Int32.toInt 0 = 0 from rfl]; omega)) (by first | with_reducible assumption | (and_intros <;> first | with_reducible assumption | (intros; refine Int.le_antisymm ?_ ?_ <;> omega) | omega) | assumption | decide | (rw [show Int32.toInt 0 = 0 from rfl]; omega)) (by first | assumption | (intro hq; exact absurd hq (by first | omega | decide)) | (intro _; exact dgs_ext (hd (by assumption)) (by first | (refine Int.le_antisymm ?_ ?_ <;> omega) | omega) rfl (by first | (refine Int.le_antisymm ?_ ?_ <;> omega) | omega) (by assumption) (by assumption)) | (intro _; exact dgs_ext (hd (by first | (refine Int.le_antisymm ?_ ?_ <;> omega) | omega)) (by first | (refine Int.le_antisymm ?_ ?_ <;> omega) | omega) rfl (by first | (refine Int.le_antisymm ?_ ?_ <;> omega) | omega) (by assumption) (by assumption))) (by first | assumption | exact ee_go he (by assumption) (by first | (refine Int.le_antisymm ?_ ?_ <;> omega) | omega) (by first | (refine Int.le_antisymm ?_ ?_ <;> omega) | omega) (by first | (refine Int.le_antisymm ?_ ?_ <;> omega) | omega) (by first | (refine Int.le_antisymm ?_ ?_ <;> omega) | omega)) (by first | (refine Int.le_antisymm ?_ ?_ <;> omega) | omega) H _ ls hP hD hS (lv_sub hl [0] rfl)
        · have hP : va_P D vwCl [(tp, .inr (5, [.ref by_, .int tz, .int s1, .int a1, .int b2, .int tv])), (by_, .inl (cI, 400, .inl f))] H := hP
          have hD : va_D A [(tp, .inr (5, [.ref by_, .int tz, .int s1, .int a1, .int b2, .int tv])), (by_, .inl (cI, 400, .inl f))] := hD
          refine lv_aload_n S.1 S.2.1 dX5_advance_142 rfl (lv_at hl 0 rfl) ?_
          refine b_get (v := .int s1) S iX5 hK hP 0 rfl rfl 2 (by decide) (by decide +kernel) rfl dX5_advance_143 ?_
          refine lv_icmp_ne (tgt := 162) S.1 S.2.1 dX5_advance_146 (by decide) (fun c_217 => ?_) (fun c_217 => ?_)
          · rw [eq2 (a := 3) (b := s1) (A := 3) (B := s1.toInt) rfl rfl] at c_217
            exact K b2 (by first | with_reducible assumption | assumption | omega | decide | (rw [show Int32.toInt 0 = 0 from rfl]; omega)) (by first | with_reducible assumption | (and_intros <;> first | with_reducible assumption | (intros; refine Int.le_antisymm ?_ ?_ <;> omega) | omega) | assumption | decide | (rw [show Int32.toInt 0 = 0 from rfl]; omega)) (by first | assumption | (intro hq; exact absurd hq (by first | omega | decide)) | (intro _; exact dgs_ext (hd (by assumption)) (by first | (refine Int.le_antisymm ?_ ?_ <;> omega) | omega) rfl (by first | (refine Int.le_antisymm ?_ ?_ <;> omega) | omega) (by assumption) (by assumption)) | (intro _; exact dgs_ext (hd (by first | (refine Int.le_antisymm ?_ ?_ <;> omega) | omega)) (by first | (refine Int.le_antisymm ?_ ?_ <;> omega) | omega) rfl (by first | (refine Int.le_antisymm ?_ ?_ <;> omega) | omega) (by assumption) (by assumption))) (by first | assumption | exact ee_go he (by assumption) (by first | (refine Int.le_antisymm ?_ ?_ <;> omega) | omega) (by first | (refine Int.le_antisymm ?_ ?_ <;> omega) | omega) (by first | (refine Int.le_antisymm ?_ ?_ <;> omega) | omega) (by first | (refine Int.le_antisymm ?_ ?_ <;> omega) | omega)) (by first | exact ee_outs (by first | (refine Int.le_antisymm ?_ ?_ <;> omega) | omega) | exact ee_st (by first | (refine Int.le_antisymm ?_ ?_ <;> omega) | omega) | exact ee_no (by assumption) (by first | (refine Int.le_antisymm ?_ ?_ <;> omega) | omega)) H _ ls hP hD hS (lv_sub hl [0] rfl)
          · rw [eq2 (a := 3) (b := s1) (A := 3) (B := s1.toInt) rfl rfl] at c_217
            refine lv_aload_n S.1 S.2.1 dX5_advance_149 rfl (lv_at hl 0 rfl) ?_
            refine lv_dup S.1 S.2.1 dX5_advance_150 rfl ?_
            refine b_get (v := .int b2) S iX5 hK hP 0 rfl rfl 4 (by decide) (by decide +kernel) rfl dX5_advance_151 ?_
            refine lv_iconst (v := (1)) S.1 S.2.1 dX5_advance_154 (by decide) ?_
            refine lv_iadd S.1 S.2.1 dX5_advance_155 ?_
            refine lv_topi (fun x_218 ex_218 => ?_)
            have tx_218 : x_218.toInt = b2.toInt + (1) := addI (A := b2.toInt) (B := 1) ex_218 rfl rfl (by  omega) (by  omega)
            refine b_put (v := .int x_218) S iX5 tyX5 tyX5_ok nmX5 hK hP hD hS 0 rfl rfl 4 (by decide) (by decide +kernel) rfl rfl rfl (Nat.le_of_ble_eq_true rfl) dX5_advance_156 (fun H locs hP hD hS => ?_)
            have hP : va_P D vwCl [(tp, .inr (5, [.ref by_, .int tz, .int s1, .int a1, .int x_218, .int tv])), (by_, .inl (cI, 400, .inl f))] H := hP
            have hD : va_D A [(tp, .inr (5, [.ref by_, .int tz, .int s1, .int a1, .int x_218, .int tv])), (by_, .inl (cI, 400, .inl f))] := hD
            refine lv_goto (tgt := 103) S.1 S.2.1 dX5_advance_159 (by decide) ?_
            exact ih x_218 (by first | with_reducible assumption | assumption | omega | decide | (rw [show Int32.toInt 0 = 0 from rfl]; omega)) (by first | with_reducible assumption | (and_intros <;> first | with_reducible assumption | (intros; refine Int.le_antisymm ?_ ?_ <;> omega) | omega) | assumption | decide | (rw [show Int32.toInt 0 = 0 from rfl]; omega)) (by first | assumption | (intro hq; exact absurd hq (by first | omega | decide)) | (intro _; exact dgs_ext (hd (by assumption)) (by first | (refine Int.le_antisymm ?_ ?_ <;> omega) | omega) rfl (by first | (refine Int.le_antisymm ?_ ?_ <;> omega) | omega) (by assumption) (by assumption)) | (intro _; exact dgs_ext (hd (by first | (refine Int.le_antisymm ?_ ?_ <;> omega) | omega)) (by first | (refine Int.le_antisymm ?_ ?_ <;> omega) | omega) rfl (by first | (refine Int.le_antisymm ?_ ?_ <;> omega) | omega) (by assumption) (by assumption))) (by first | assumption | exact ee_go he (by assumption) (by first | (refine Int.le_antisymm ?_ ?_ <;> omega) | omega) (by first | (refine Int.le_antisymm ?_ ?_ <;> omega) | omega) (by first | (refine Int.le_antisymm ?_ ?_ <;> omega) | omega) (by first | (refine Int.le_antisymm ?_ ?_ <;> omega) | omega)) (by first | (refine Int.le_antisymm ?_ ?_ <;> omega) | omega) H _ ls hP hD hS (lv_sub hl [0] rfl)
        · have hP : va_P D vwCl [(tp, .inr (5, [.ref by_, .int tz, .int s1, .int a1, .int b2, .int tv])), (by_, .inl (cI, 400, .inl f))] H := hP
          have hD : va_D A [(tp, .inr (5, [.ref by_, .int tz, .int s1, .int a1, .int b2, .int tv])), (by_, .inl (cI, 400, .inl f))] := hD
          refine lv_aload_n S.1 S.2.1 dX5_advance_142 rfl (lv_at hl 0 rfl) ?_
          refine b_get (v := .int s1) S iX5 hK hP 0 rfl rfl 2 (by decide) (by decide +kernel) rfl dX5_advance_143 ?_
          refine lv_icmp_ne (tgt := 162) S.1 S.2.1 dX5_advance_146 (by decide) (fun c_219 => ?_) (fun c_219 => ?_)
          · rw [eq2 (a := 4) (b := s1) (A := 4) (B := s1.toInt) rfl rfl] at c_219
            exact K b2 (by first | with_reducible assumption | assumption | omega | decide | (rw [show Int32.toInt 0 = 0 from rfl]; omega)) (by first | with_reducible assumption | (and_intros <;> first | with_reducible assumption | (intros; refine Int.le_antisymm ?_ ?_ <;> omega) | omega) | assumption | decide | (rw [show Int32.toInt 0 = 0 from rfl]; omega)) (by first | assumption | (intro hq; exact absurd hq (by first | omega | decide)) | (intro _; exact dgs_ext (hd (by assumption)) (by first | (refine Int.le_antisymm ?_ ?_ <;> omega) | omega) rfl (by first | (refine Int.le_antisymm ?_ ?_ <;> omega) | omega) (by assumption) (by assumption)) | (intro _; exact dgs_ext (hd (by first | (refine Int.le_antisymm ?_ ?_ <;> omega) | omega)) (by first | (refine Int.le_antisymm ?_ ?_ <;> omega) | omega) rfl (by first | (refine Int.le_antisymm ?_ ?_ <;> omega) | omega) (by assumption) (by assumption))) (by first | assumption | exact ee_go he (by assumption) (by first | (refine Int.le_antisymm ?_ ?_ <;> omega) | omega) (by first | (refine Int.le_antisymm ?_ ?_ <;> omega) | omega) (by first | (refine Int.le_antisymm ?_ ?_ <;> omega) | omega) (by first | (refine Int.le_antisymm ?_ ?_ <;> omega) | omega)) (by first | exact ee_outs (by first | (refine Int.le_antisymm ?_ ?_ <;> omega) | omega) | exact ee_st (by first | (refine Int.le_antisymm ?_ ?_ <;> omega) | omega) | exact ee_no (by assumption) (by first | (refine Int.le_antisymm ?_ ?_ <;> omega) | omega)) H _ ls hP hD hS (lv_sub hl [0] rfl)
          · rw [eq2 (a := 4) (b := s1) (A := 4) (B := s1.toInt) rfl rfl] at c_219
            refine lv_aload_n S.1 S.2.1 dX5_advance_149 rfl (lv_at hl 0 rfl) ?_
            refine lv_dup S.1 S.2.1 dX5_advance_150 rfl ?_
            refine b_get (v := .int b2) S iX5 hK hP 0 rfl rfl 4 (by decide) (by decide +kernel) rfl dX5_advance_151 ?_
            refine lv_iconst (v := (1)) S.1 S.2.1 dX5_advance_154 (by decide) ?_
            refine lv_iadd S.1 S.2.1 dX5_advance_155 ?_
            refine lv_topi (fun x_220 ex_220 => ?_)
            have tx_220 : x_220.toInt = b2.toInt + (1) := addI (A := b2.toInt) (B := 1) ex_220 rfl rfl (by  omega) (by  omega)
            refine b_put (v := .int x_220) S iX5 tyX5 tyX5_ok nmX5 hK hP hD hS 0 rfl rfl 4 (by decide) (by decide +kernel) rfl rfl rfl (Nat.le_of_ble_eq_true rfl) dX5_advance_156 (fun H locs hP hD hS => ?_)
            have hP : va_P D vwCl [(tp, .inr (5, [.ref by_, .int tz, .int s1, .int a1, .int x_220, .int tv])), (by_, .inl (cI, 400, .inl f))] H := hP
            have hD : va_D A [(tp, .inr (5, [.ref by_, .int tz, .int s1, .int a1, .int x_220, .int tv])), (by_, .inl (cI, 400, .inl f))] := hD
            refine lv_goto (tgt := 103) S.1 S.2.1 dX5_advance_159 (by decide) ?_
            exact ih x_220 (by first | with_reducible assumption | assumption | omega | decide | (rw [show Int32.toInt 0 = 0 from rfl]; omega)) (by first | with_reducible assumption | (and_intros <;> first | with_reducible assumption | (intros; refine Int.le_antisymm ?_ ?_ <;> omega) | omega) | assumption | decide | (rw [show Int32.toInt 0 = 0 from rfl]; omega)) (by first | assumption | (intro hq; exact absurd hq (by first | omega | decide)) | (intro _; exact dgs_ext (hd (by assumption)) (by first | (refine Int.le_antisymm ?_ ?_ <;> omega) | omega) rfl (by first | (refine Int.le_antisymm ?_ ?_ <;> omega) | omega) (by assumption) (by assumption)) | (intro _; exact dgs_ext (hd (by first | (refine Int.le_antisymm ?_ ?_ <;> omega) | omega)) (by first | (refine Int.le_antisymm ?_ ?_ <;> omega) | omega) rfl (by first | (refine Int.le_antisymm ?_ ?_ <;> omega) | omega) (by assumption) (by assumption))) (by first | assumption | exact ee_go he (by assumption) (by first | (refine Int.le_antisymm ?_ ?_ <;> omega) | omega) (by first | (refine Int.le_antisymm ?_ ?_ <;> omega) | omega) (by first | (refine Int.le_antisymm ?_ ?_ <;> omega) | omega) (by first | (refine Int.le_antisymm ?_ ?_ <;> omega) | omega)) (by first | (refine Int.le_antisymm ?_ ?_ <;> omega) | omega) H _ ls hP hD hS (lv_sub hl [0] rfl)
      · rw [eq2 (a := s1) (b := 1) (A := s1.toInt) (B := 1) rfl rfl] at c_202
        refine lv_aload_n S.1 S.2.1 dX5_advance_122 rfl (lv_at hl 0 rfl) ?_
        refine b_get (v := .int s1) S iX5 hK hP 0 rfl rfl 2 (by decide) (by decide +kernel) rfl dX5_advance_123 ?_
        refine lv_iconst (v := (2)) S.1 S.2.1 dX5_advance_126 (by decide) ?_
        refine lv_icmp_ne (tgt := 162) S.1 S.2.1 dX5_advance_127 (by decide) (fun c_221 => ?_) (fun c_221 => ?_)
        · rw [eq2 (a := s1) (b := 2) (A := s1.toInt) (B := 2) rfl rfl] at c_221
          exact K b2 (by first | with_reducible assumption | assumption | omega | decide | (rw [show Int32.toInt 0 = 0 from rfl]; omega)) (by first | with_reducible assumption | (and_intros <;> first | with_reducible assumption | (intros; refine Int.le_antisymm ?_ ?_ <;> omega) | omega) | assumption | decide | (rw [show Int32.toInt 0 = 0 from rfl]; omega)) (by first | assumption | (intro hq; exact absurd hq (by first | omega | decide)) | (intro _; exact dgs_ext (hd (by assumption)) (by first | (refine Int.le_antisymm ?_ ?_ <;> omega) | omega) rfl (by first | (refine Int.le_antisymm ?_ ?_ <;> omega) | omega) (by assumption) (by assumption)) | (intro _; exact dgs_ext (hd (by first | (refine Int.le_antisymm ?_ ?_ <;> omega) | omega)) (by first | (refine Int.le_antisymm ?_ ?_ <;> omega) | omega) rfl (by first | (refine Int.le_antisymm ?_ ?_ <;> omega) | omega) (by assumption) (by assumption))) (by first | assumption | exact ee_go he (by assumption) (by first | (refine Int.le_antisymm ?_ ?_ <;> omega) | omega) (by first | (refine Int.le_antisymm ?_ ?_ <;> omega) | omega) (by first | (refine Int.le_antisymm ?_ ?_ <;> omega) | omega) (by first | (refine Int.le_antisymm ?_ ?_ <;> omega) | omega)) (by first | exact ee_outs (by first | (refine Int.le_antisymm ?_ ?_ <;> omega) | omega) | exact ee_st (by first | (refine Int.le_antisymm ?_ ?_ <;> omega) | omega) | exact ee_no (by assumption) (by first | (refine Int.le_antisymm ?_ ?_ <;> omega) | omega)) H _ ls hP hD hS (lv_sub hl [0] rfl)
        · rw [eq2 (a := s1) (b := 2) (A := s1.toInt) (B := 2) rfl rfl] at c_221
          refine lv_aload_n S.1 S.2.1 dX5_advance_130 rfl (lv_at hl 0 rfl) ?_
          refine b_get (v := .ref by_) S iX5 hK hP 0 rfl rfl 0 (by decide) (by decide +kernel) rfl dX5_advance_131 ?_
          refine lv_aload_n S.1 S.2.1 dX5_advance_134 rfl (lv_at hl 0 rfl) ?_
          refine b_get (v := .int b2) S iX5 hK hP 0 rfl rfl 4 (by decide) (by decide +kernel) rfl dX5_advance_135 ?_
          have hin_222 : vp_in b2 400 := (in_of (n := 400) (by  omega) (by  omega))
          refine va_iald S.1 S.2.1 hK.1 hP 1 0 rfl rfl hin_222 dX5_advance_138 ?_
          refine lv_topi (fun x_223 ex_223 => ?_)
          have tx_223 := rng_get (x := x_223) (show rng f 400 (0) (255) by assumption) hin_222 ex_223
          have qx_223 := tx_get (n := tz.toInt) (i := b2) (by first | (refine Int.le_antisymm ?_ ?_ <;> omega) | omega) (by first | (refine Int.le_antisymm ?_ ?_ <;> omega) | omega) ex_223
          refine b_ai (wr := [(tp, .inr (5, [.ref by_, .int tz, .int s1, .int a1, .int b2, .int tv])), (by_, .inl (cI, 400, .inl f))]) (b_runS (As := [.int x_223]) (s_X5_sortOf l D cI cZ cC cS sq H.size x_223) S gX5_advance_X5_sortOf rfl hdS_X5_sortOf ⟨Nat.le_of_ble_eq_true rfl, Nat.le_of_ble_eq_true rfl⟩ ⟨Nat.le_of_ble_eq_true rfl, Nat.le_of_ble_eq_true rfl⟩ hK hT hS hA hP hD [] rfl (by decide) rfl hl.1 rfl (Nat.le_of_ble_eq_true rfl) dX5_advance_139) hP hD hS hA [] [0, 1] rfl rfl (by decide) (by decide) (fun r_224 w_225 H locs hw_226 hP hD hS => ?_)
          rcases hw_226 with ⟨hf_227, rfl, rfl⟩ | ⟨hf_228, hf_229, rfl, rfl⟩ | ⟨hf_230, rfl, rfl⟩ | ⟨hf_231, rfl, rfl⟩
          · have hP : va_P D vwCl [(tp, .inr (5, [.ref by_, .int tz, .int s1, .int a1, .int b2, .int tv])), (by_, .inl (cI, 400, .inl f))] H := hP
            have hD : va_D A [(tp, .inr (5, [.ref by_, .int tz, .int s1, .int a1, .int b2, .int tv])), (by_, .inl (cI, 400, .inl f))] := hD
            refine lv_aload_n S.1 S.2.1 dX5_advance_142 rfl (lv_at hl 0 rfl) ?_
            refine b_get (v := .int s1) S iX5 hK hP 0 rfl rfl 2 (by decide) (by decide +kernel) rfl dX5_advance_143 ?_
            refine lv_icmp_ne (tgt := 162) S.1 S.2.1 dX5_advance_146 (by decide) (fun c_232 => ?_) (fun c_232 => ?_)
            · rw [eq2 (a := 1) (b := s1) (A := 1) (B := s1.toInt) rfl rfl] at c_232
              exact K b2 (by first | with_reducible assumption | assumption | omega | decide | (rw [show Int32.toInt 0 = 0 from rfl]; omega)) (by first | with_reducible assumption | (and_intros <;> first | with_reducible assumption | (intros; refine Int.le_antisymm ?_ ?_ <;> omega) | omega) | assumption | decide | (rw [show Int32.toInt 0 = 0 from rfl]; omega)) (by first | assumption | (intro hq; exact absurd hq (by first | omega | decide)) | (intro _; exact dgs_ext (hd (by assumption)) (by first | (refine Int.le_antisymm ?_ ?_ <;> omega) | omega) rfl (by first | (refine Int.le_antisymm ?_ ?_ <;> omega) | omega) (by assumption) (by assumption)) | (intro _; exact dgs_ext (hd (by first | (refine Int.le_antisymm ?_ ?_ <;> omega) | omega)) (by first | (refine Int.le_antisymm ?_ ?_ <;> omega) | omega) rfl (by first | (refine Int.le_antisymm ?_ ?_ <;> omega) | omega) (by assumption) (by assumption))) (by first | assumption | exact ee_go he (by assumption) (by first | (refine Int.le_antisymm ?_ ?_ <;> omega) | omega) (by first | (refine Int.le_antisymm ?_ ?_ <;> omega) | omega) (by first | (refine Int.le_antisymm ?_ ?_ <;> omega) | omega) (by first | (refine Int.le_antisymm ?_ ?_ <;> omega) | omega)) (by first | exact ee_outs (by first | (refine Int.le_antisymm ?_ ?_ <;> omega) | omega) | exact ee_st (by first | (refine Int.le_antisymm ?_ ?_ <;> omega) | omega) | exact ee_no (by assumption) (by first | (refine Int.le_antisymm ?_ ?_ <;> omega) | omega)) H _ ls hP hD hS (lv_sub hl [0] rfl)
            · rw [eq2 (a := 1) (b := s1) (A := 1) (B := s1.toInt) rfl rfl] at c_232
              refine lv_aload_n S.1 S.2.1 dX5_advance_149 rfl (lv_at hl 0 rfl) ?_
              refine lv_dup S.1 S.2.1 dX5_advance_150 rfl ?_
              refine b_get (v := .int b2) S iX5 hK hP 0 rfl rfl 4 (by decide) (by decide +kernel) rfl dX5_advance_151 ?_
              refine lv_iconst (v := (1)) S.1 S.2.1 dX5_advance_154 (by decide) ?_
              refine lv_iadd S.1 S.2.1 dX5_advance_155 ?_
              refine lv_topi (fun x_233 ex_233 => ?_)
              have tx_233 : x_233.toInt = b2.toInt + (1) := addI (A := b2.toInt) (B := 1) ex_233 rfl rfl (by  omega) (by  omega)
              refine b_put (v := .int x_233) S iX5 tyX5 tyX5_ok nmX5 hK hP hD hS 0 rfl rfl 4 (by decide) (by decide +kernel) rfl rfl rfl (Nat.le_of_ble_eq_true rfl) dX5_advance_156 (fun H locs hP hD hS => ?_)
              have hP : va_P D vwCl [(tp, .inr (5, [.ref by_, .int tz, .int s1, .int a1, .int x_233, .int tv])), (by_, .inl (cI, 400, .inl f))] H := hP
              have hD : va_D A [(tp, .inr (5, [.ref by_, .int tz, .int s1, .int a1, .int x_233, .int tv])), (by_, .inl (cI, 400, .inl f))] := hD
              refine lv_goto (tgt := 103) S.1 S.2.1 dX5_advance_159 (by decide) ?_
              exact ih x_233 (by first | with_reducible assumption | assumption | omega | decide | (rw [show Int32.toInt 0 = 0 from rfl]; omega)) (by first | with_reducible assumption | (and_intros <;> first | with_reducible assumption | (intros; refine Int.le_antisymm ?_ ?_ <;> omega) | omega) | assumption | decide | (rw [show Int32.toInt 0 = 0 from rfl]; omega)) (by first | assumption | (intro hq; exact absurd hq (by first | omega | decide)) | (intro _; exact dgs_ext (hd (by assumption)) (by first | (refine Int.le_antisymm ?_ ?_ <;> omega) | omega) rfl (by first | (refine Int.le_antisymm ?_ ?_ <;> omega) | omega) (by assumption) (by assumption)) | (intro _; exact dgs_ext (hd (by first | (refine Int.le_antisymm ?_ ?_ <;> omega) | omega)) (by first | (refine Int.le_antisymm ?_ ?_ <;> omega) | omega) rfl (by first | (refine Int.le_antisymm ?_ ?_ <;> omega) | omega) (by assumption) (by assumption))) (by first | assumption | exact ee_go he (by assumption) (by first | (refine Int.le_antisymm ?_ ?_ <;> omega) | omega) (by first | (refine Int.le_antisymm ?_ ?_ <;> omega) | omega) (by first | (refine Int.le_antisymm ?_ ?_ <;> omega) | omega) (by first | (refine Int.le_antisymm ?_ ?_ <;> omega) | omega)) (by first | (refine Int.le_antisymm ?_ ?_ <;> omega) | omega) H _ ls hP hD hS (lv_sub hl [0] rfl)
          · have hP : va_P D vwCl [(tp, .inr (5, [.ref by_, .int tz, .int s1, .int a1, .int b2, .int tv])), (by_, .inl (cI, 400, .inl f))] H := hP
            have hD : va_D A [(tp, .inr (5, [.ref by_, .int tz, .int s1, .int a1, .int b2, .int tv])), (by_, .inl (cI, 400, .inl f))] := hD
            refine lv_aload_n S.1 S.2.1 dX5_advance_142 rfl (lv_at hl 0 rfl) ?_
            refine b_get (v := .int s1) S iX5 hK hP 0 rfl rfl 2 (by decide) (by decide +kernel) rfl dX5_advance_143 ?_
            refine lv_icmp_ne (tgt := 162) S.1 S.2.1 dX5_advance_146 (by decide) (fun c_234 => ?_) (fun c_234 => ?_)
            · rw [eq2 (a := 2) (b := s1) (A := 2) (B := s1.toInt) rfl rfl] at c_234
              exact K b2 (by first | with_reducible assumption | assumption | omega | decide | (rw [show Int32.toInt 0 = 0 from rfl]; omega)) (by first | with_reducible assumption | (and_intros <;> first | with_reducible assumption | (intros; refine Int.le_antisymm ?_ ?_ <;> omega) | omega) | assumption | decide | (rw [show Int32.toInt 0 = 0 from rfl]; omega)) (by first | assumption | (intro hq; exact absurd hq (by first | omega | decide)) | (intro _; exact dgs_ext (hd (by assumption)) (by first | (refine Int.le_antisymm ?_ ?_ <;> omega) | omega) rfl (by first | (refine Int.le_antisymm ?_ ?_ <;> omega) | omega) (by assumption) (by assumption)) | (intro _; exact dgs_ext (hd (by first | (refine Int.le_antisymm ?_ ?_ <;> omega) | omega)) (by first | (refine Int.le_antisymm ?_ ?_ <;> omega) | omega) rfl (by first | (refine Int.le_antisymm ?_ ?_ <;> omega) | omega) (by assumption) (by assumption))) (by first | assumption | exact ee_go he (by assumption) (by first | (refine Int.le_antisymm ?_ ?_ <;> omega) | omega) (by first | (refine Int.le_antisymm ?_ ?_ <;> omega) | omega) (by first | (refine Int.le_antisymm ?_ ?_ <;> omega) | omega) (by first | (refine Int.le_antisymm ?_ ?_ <;> omega) | omega)) (by first | exact ee_outs (by first | (refine Int.le_antisymm ?_ ?_ <;> omega) | omega) | exact ee_st (by first | (refine Int.le_antisymm ?_ ?_ <;> omega) | omega) | exact ee_no (by assumption) (by first | (refine Int.le_antisymm ?_ ?_ <;> omega) | omega)) H _ ls hP hD hS (lv_sub hl [0] rfl)
            · rw [eq2 (a := 2) (b := s1) (A := 2) (B := s1.toInt) rfl rfl] at c_234
              refine lv_aload_n S.1 S.2.1 dX5_advance_149 rfl (lv_at hl 0 rfl) ?_
              refine lv_dup S.1 S.2.1 dX5_advance_150 rfl ?_
              refine b_get (v := .int b2) S iX5 hK hP 0 rfl rfl 4 (by decide) (by decide +kernel) rfl dX5_advance_151 ?_
              refine lv_iconst (v := (1)) S.1 S.2.1 dX5_advance_154 (by decide) ?_
              refine lv_iadd S.1 S.2.1 dX5_advance_155 ?_
              refine lv_topi (fun x_235 ex_235 => ?_)
              have tx_235 : x_235.toInt = b2.toInt + (1) := addI (A := b2.toInt) (B := 1) ex_235 rfl rfl (by  omega) (by  omega)
              refine b_put (v := .int x_235) S iX5 tyX5 tyX5_ok nmX5 hK hP hD hS 0 rfl rfl 4 (by decide) (by decide +kernel) rfl rfl rfl (Nat.le_of_ble_eq_true rfl) dX5_advance_156 (fun H locs hP hD hS => ?_)
              have hP : va_P D vwCl [(tp, .inr (5, [.ref by_, .int tz, .int s1, .int a1, .int x_235, .int tv])), (by_, .inl (cI, 400, .inl f))] H := hP
              have hD : va_D A [(tp, .inr (5, [.ref by_, .int tz, .int s1, .int a1, .int x_235, .int tv])), (by_, .inl (cI, 400, .inl f))] := hD
              refine lv_goto (tgt := 103) S.1 S.2.1 dX5_advance_159 (by decide) ?_
              exact ih x_235 (by first | with_reducible assumption | assumption | omega | decide | (rw [show Int32.toInt 0 = 0 from rfl]; omega)) (by first | with_reducible assumption | (and_intros <;> first | with_reducible assumption | (intros; refine Int.le_antisymm ?_ ?_ <;> omega) | omega) | assumption | decide | (rw [show Int32.toInt 0 = 0 from rfl]; omega)) (by first | assumption | (intro hq; exact absurd hq (by first | omega | decide)) | (intro _; exact dgs_ext (hd (by assumption)) (by first | (refine Int.le_antisymm ?_ ?_ <;> omega) | omega) rfl (by first | (refine Int.le_antisymm ?_ ?_ <;> omega) | omega) (by assumption) (by assumption)) | (intro _; exact dgs_ext (hd (by first | (refine Int.le_antisymm ?_ ?_ <;> omega) | omega)) (by first | (refine Int.le_antisymm ?_ ?_ <;> omega) | omega) rfl (by first | (refine Int.le_antisymm ?_ ?_ <;> omega) | omega) (by assumption) (by assumption))) (by first | assumption | exact ee_go he (by assumption) (by first | (refine Int.le_antisymm ?_ ?_ <;> omega) | omega) (by first | (refine Int.le_antisymm ?_ ?_ <;> omega) | omega) (by first | (refine Int.le_antisymm ?_ ?_ <;> omega) | omega) (by first | (refine Int.le_antisymm ?_ ?_ <;> omega) | omega)) (by first | (refine Int.le_antisymm ?_ ?_ <;> omega) | omega) H _ ls hP hD hS (lv_sub hl [0] rfl)
          · have hP : va_P D vwCl [(tp, .inr (5, [.ref by_, .int tz, .int s1, .int a1, .int b2, .int tv])), (by_, .inl (cI, 400, .inl f))] H := hP
            have hD : va_D A [(tp, .inr (5, [.ref by_, .int tz, .int s1, .int a1, .int b2, .int tv])), (by_, .inl (cI, 400, .inl f))] := hD
            refine lv_aload_n S.1 S.2.1 dX5_advance_142 rfl (lv_at hl 0 rfl) ?_
            refine b_get (v := .int s1) S iX5 hK hP 0 rfl rfl 2 (by decide) (by decide +kernel) rfl dX5_advance_143 ?_
            refine lv_icmp_ne (tgt := 162) S.1 S.2.1 dX5_advance_146 (by decide) (fun c_236 => ?_) (fun c_236 => ?_)
            · rw [eq2 (a := 3) (b := s1) (A := 3) (B := s1.toInt) rfl rfl] at c_236
              exact K b2 (by first | with_reducible assumption | assumption | omega | decide | (rw [show Int32.toInt 0 = 0 from rfl]; omega)) (by first | with_reducible assumption | (and_intros <;> first | with_reducible assumption | (intros; refine Int.le_antisymm ?_ ?_ <;> omega) | omega) | assumption | decide | (rw [show Int32.toInt 0 = 0 from rfl]; omega)) (by first | assumption | (intro hq; exact absurd hq (by first | omega | decide)) | (intro _; exact dgs_ext (hd (by assumption)) (by first | (refine Int.le_antisymm ?_ ?_ <;> omega) | omega) rfl (by first | (refine Int.le_antisymm ?_ ?_ <;> omega) | omega) (by assumption) (by assumption)) | (intro _; exact dgs_ext (hd (by first | (refine Int.le_antisymm ?_ ?_ <;> omega) | omega)) (by first | (refine Int.le_antisymm ?_ ?_ <;> omega) | omega) rfl (by first | (refine Int.le_antisymm ?_ ?_ <;> omega) | omega) (by assumption) (by assumption))) (by first | assumption | exact ee_go he (by assumption) (by first | (refine Int.le_antisymm ?_ ?_ <;> omega) | omega) (by first | (refine Int.le_antisymm ?_ ?_ <;> omega) | omega) (by first | (refine Int.le_antisymm ?_ ?_ <;> omega) | omega) (by first | (refine Int.le_antisymm ?_ ?_ <;> omega) | omega)) (by first | exact ee_outs (by first | (refine Int.le_antisymm ?_ ?_ <;> omega) | omega) | exact ee_st (by first | (refine Int.le_antisymm ?_ ?_ <;> omega) | omega) | exact ee_no (by assumption) (by first | (refine Int.le_antisymm ?_ ?_ <;> omega) | omega)) H _ ls hP hD hS (lv_sub hl [0] rfl)
            · rw [eq2 (a := 3) (b := s1) (A := 3) (B := s1.toInt) rfl rfl] at c_236
              refine lv_aload_n S.1 S.2.1 dX5_advance_149 rfl (lv_at hl 0 rfl) ?_
              refine lv_dup S.1 S.2.1 dX5_advance_150 rfl ?_
              refine b_get (v := .int b2) S iX5 hK hP 0 rfl rfl 4 (by decide) (by decide +kernel) rfl dX5_advance_151 ?_
              refine lv_iconst (v := (1)) S.1 S.2.1 dX5_advance_154 (by decide) ?_
              refine lv_iadd S.1 S.2.1 dX5_advance_155 ?_
              refine lv_topi (fun x_237 ex_237 => ?_)
              have tx_237 : x_237.toInt = b2.toInt + (1) := addI (A := b2.toInt) (B := 1) ex_237 rfl rfl (by  omega) (by  omega)
              refine b_put (v := .int x_237) S iX5 tyX5 tyX5_ok nmX5 hK hP hD hS 0 rfl rfl 4 (by decide) (by decide +kernel) rfl rfl rfl (Nat.le_of_ble_eq_true rfl) dX5_advance_156 (fun H locs hP hD hS => ?_)
              have hP : va_P D vwCl [(tp, .inr (5, [.ref by_, .int tz, .int s1, .int a1, .int x_237, .int tv])), (by_, .inl (cI, 400, .inl f))] H := hP
              have hD : va_D A [(tp, .inr (5, [.ref by_, .int tz, .int s1, .int a1, .int x_237, .int tv])), (by_, .inl (cI, 400, .inl f))] := hD
              refine lv_goto (tgt := 103) S.1 S.2.1 dX5_advance_159 (by decide) ?_
              exact ih x_237 (by first | with_reducible assumption | assumption | omega | decide | (rw [show Int32.toInt 0 = 0 from rfl]; omega)) (by first | with_reducible assumption | (and_intros <;> first | with_reducible assumption | (intros; refine Int.le_antisymm ?_ ?_ <;> omega) | omega) | assumption | decide | (rw [show Int32.toInt 0 = 0 from rfl]; omega)) (by first | assumption | (intro hq; exact absurd hq (by first | omega | decide)) | (intro _; exact dgs_ext (hd (by assumption)) (by first | (refine Int.le_antisymm ?_ ?_ <;> omega) | omega) rfl (by first | (refine Int.le_antisymm ?_ ?_ <;> omega) | omega) (by assumption) (by assumption)) | (intro _; exact dgs_ext (hd (by first | (refine Int.le_antisymm ?_ ?_ <;> omega) | omega)) (by first | (refine Int.le_antisymm ?_ ?_ <;> omega) | omega) rfl (by first | (refine Int.le_antisymm ?_ ?_ <;> omega) | omega) (by assumption) (by assumption))) (by first | assumption | exact ee_go he (by assumption) (by first | (refine Int.le_antisymm ?_ ?_ <;> omega) | omega) (by first | (refine Int.le_antisymm ?_ ?_ <;> omega) | omega) (by first | (refine Int.le_antisymm ?_ ?_ <;> omega) | omega) (by first | (refine Int.le_antisymm ?_ ?_ <;> omega) | omega)) (by first | (refine Int.le_antisymm ?_ ?_ <;> omega) | omega) H _ ls hP hD hS (lv_sub hl [0] rfl)
          · have hP : va_P D vwCl [(tp, .inr (5, [.ref by_, .int tz, .int s1, .int a1, .int b2, .int tv])), (by_, .inl (cI, 400, .inl f))] H := hP
            have hD : va_D A [(tp, .inr (5, [.ref by_, .int tz, .int s1, .int a1, .int b2, .int tv])), (by_, .inl (cI, 400, .inl f))] := hD
            refine lv_aload_n S.1 S.2.1 dX5_advance_142 rfl (lv_at hl 0 rfl) ?_
            refine b_get (v := .int s1) S iX5 hK hP 0 rfl rfl 2 (by decide) (by decide +kernel) rfl dX5_advance_143 ?_
            refine lv_icmp_ne (tgt := 162) S.1 S.2.1 dX5_advance_146 (by decide) (fun c_238 => ?_) (fun c_238 => ?_)
            · rw [eq2 (a := 4) (b := s1) (A := 4) (B := s1.toInt) rfl rfl] at c_238
              exact K b2 (by first | with_reducible assumption | assumption | omega | decide | (rw [show Int32.toInt 0 = 0 from rfl]; omega)) (by first | with_reducible assumption | (and_intros <;> first | with_reducible assumption | (intros; refine Int.le_antisymm ?_ ?_ <;> omega) | omega) | assumption | decide | (rw [show Int32.toInt 0 = 0 from rfl]; omega)) (by first | assumption | (intro hq; exact absurd hq (by first | omega | decide)) | (intro _; exact dgs_ext (hd (by assumption)) (by first | (refine Int.le_antisymm ?_ ?_ <;> omega) | omega) rfl (by first | (refine Int.le_antisymm ?_ ?_ <;> omega) | omega) (by assumption) (by assumption)) | (intro _; exact dgs_ext (hd (by first | (refine Int.le_antisymm ?_ ?_ <;> omega) | omega)) (by first | (refine Int.le_antisymm ?_ ?_ <;> omega) | omega) rfl (by first | (refine Int.le_antisymm ?_ ?_ <;> omega) | omega) (by assumption) (by assumption))) (by first | assumption | exact ee_go he (by assumption) (by first | (refine Int.le_antisymm ?_ ?_ <;> omega) | omega) (by first | (refine Int.le_antisymm ?_ ?_ <;> omega) | omega) (by first | (refine Int.le_antisymm ?_ ?_ <;> omega) | omega) (by first | (refine Int.le_antisymm ?_ ?_ <;> omega) | omega)) (by first | exact ee_outs (by first | (refine Int.le_antisymm ?_ ?_ <;> omega) | omega) | exact ee_st (by first | (refine Int.le_antisymm ?_ ?_ <;> omega) | omega) | exact ee_no (by assumption) (by first | (refine Int.le_antisymm ?_ ?_ <;> omega) | omega)) H _ ls hP hD hS (lv_sub hl [0] rfl)
            · rw [eq2 (a := 4) (b := s1) (A := 4) (B := s1.toInt) rfl rfl] at c_238
              refine lv_aload_n S.1 S.2.1 dX5_advance_149 rfl (lv_at hl 0 rfl) ?_
              refine lv_dup S.1 S.2.1 dX5_advance_150 rfl ?_
              refine b_get (v := .int b2) S iX5 hK hP 0 rfl rfl 4 (by decide) (by decide +kernel) rfl dX5_advance_151 ?_
              refine lv_iconst (v := (1)) S.1 S.2.1 dX5_advance_154 (by decide) ?_
              refine lv_iadd S.1 S.2.1 dX5_advance_155 ?_
              refine lv_topi (fun x_239 ex_239 => ?_)
              have tx_239 : x_239.toInt = b2.toInt + (1) := addI (A := b2.toInt) (B := 1) ex_239 rfl rfl (by  omega) (by  omega)
              refine b_put (v := .int x_239) S iX5 tyX5 tyX5_ok nmX5 hK hP hD hS 0 rfl rfl 4 (by decide) (by decide +kernel) rfl rfl rfl (Nat.le_of_ble_eq_true rfl) dX5_advance_156 (fun H locs hP hD hS => ?_)
              have hP : va_P D vwCl [(tp, .inr (5, [.ref by_, .int tz, .int s1, .int a1, .int x_239, .int tv])), (by_, .inl (cI, 400, .inl f))] H := hP
              have hD : va_D A [(tp, .inr (5, [.ref by_, .int tz, .int s1, .int a1, .int x_239, .int tv])), (by_, .inl (cI, 400, .inl f))] := hD
              refine lv_goto (tgt := 103) S.1 S.2.1 dX5_advance_159 (by decide) ?_
              exact ih x_239 (by first | with_reducible assumption | assumption | omega | decide | (rw [show Int32.toInt 0 = 0 from rfl]; omega)) (by first | with_reducible assumption | (and_intros <;> first | with_reducible assumption | (intros; refine Int.le_antisymm ?_ ?_ <;> omega) | omega) | assumption | decide | (rw [show Int32.toInt 0 = 0 from rfl]; omega)) (by first | assumption | (intro hq; exact absurd hq (by first | omega | decide)) | (intro _; exact dgs_ext (hd (by assumption)) (by first | (refine Int.le_antisymm ?_ ?_ <;> omega) | omega) rfl (by first | (refine Int.le_antisymm ?_ ?_ <;> omega) | omega) (by assumption) (by assumption)) | (intro _; exact dgs_ext (hd (by first | (refine Int.le_antisymm ?_ ?_ <;> omega) | omega)) (by first | (refine Int.le_antisymm ?_ ?_ <;> omega) | omega) rfl (by first | (refine Int.le_antisymm ?_ ?_ <;> omega) | omega) (by assumption) (by assumption))) (by first | assumption | exact ee_go he (by assumption) (by first | (refine Int.le_antisymm ?_ ?_ <;> omega) | omega) (by first | (refine Int.le_antisymm ?_ ?_ <;> omega) | omega) (by first | (refine Int.le_antisymm ?_ ?_ <;> omega) | omega) (by first | (refine Int.le_antisymm ?_ ?_ <;> omega) | omega)) (by first | (refine Int.le_antisymm ?_ ?_ <;> omega) | omega) H _ ls hP hD hS (lv_sub hl [0] rfl)
set_option maxHeartbeats 4000000 in
set_option maxRecDepth 100000 in
theorem s_X5_advance (l : Launch) (D : va_G) (cI cZ cC cS : ClassId) (sq : Nat → Nat) (sz : Nat) (tp : Nat) (by_ : Nat) (tz : Int32) (ts : Int32) (ta : Int32) (tb : Int32) (tv : Int32) (f : Nat → Int32) (a0 : Int) (hrg_f : rng f 400 (0) (255)) (hz : 0 ≤ tz.toInt ∧ tz.toInt ≤ 400) (hb : 0 ≤ tb.toInt ∧ tb.toInt ≤ tz.toInt) (ht3 : tok (tx f tz.toInt) a0 ts.toInt ta.toInt tb.toInt tv.toInt) : mV l yX5_advance wsX5_advance 1 40 0 0 D (tyW cI cZ cC cS) sq [(tp, .inr (5, [.ref by_, .int tz, .int ts, .int ta, .int tb, .int tv])), (by_, .inl (cI, 400, .inl f))] sz [.ref tp] (fun w => (∃ (ts2 : Int32), ∃ (ta2 : Int32), ∃ (tb2 : Int32), ∃ (tv2 : Int32), (0 ≤ ta2.toInt ∧ ta2.toInt ≤ tb2.toInt ∧ tb2.toInt ≤ tz.toInt) ∧ (ts2.toInt = 2 → 0 ≤ tv2.toInt ∧ tv2.toInt ≤ 999) ∧ (tok (tx f tz.toInt) (nx (tx f tz.toInt) a0) ts2.toInt ta2.toInt tb2.toInt tv2.toInt) ∧ w = [(tp, .inr (5, [.ref by_, .int tz, .int ts2, .int ta2, .int tb2, .int tv2])), (by_, .inl (cI, 400, .inl f))])) := by
  refine b_metV (cc := cX5_advance) (maxL := 1) (ret := none) (by decide) rfl (Nat.le_of_ble_eq_true rfl) ?_
  intro p e s m below meth c ls A H X hsz hP hK hT hD hA hS hl
  have S : CallFix p m c cX5_advance 1 s ([.ref tp] : List Value).toArray wsX5_advance RX5 := X.1
  have hl : lv_has ls 1 [(0, .ref tp)] := hl
  have iX5 := jX5_advance_X5
  refine lp_advance1 l D cI cZ cC cS sq tp by_ tz ts ta tb tv f a0 hrg_f hz hb ht3 X hK hT hA (fun b1_1 hi_2 hi_3 hi_4 hi_5 H locs ls hP hD hS hl => ?_) _ tb (by first | with_reducible assumption | assumption | omega | decide | (rw [show Int32.toInt 0 = 0 from rfl]; omega)) (by first | with_reducible assumption | (and_intros <;> first | with_reducible assumption | (intros; refine Int.le_antisymm ?_ ?_ <;> omega) | omega) | assumption | decide | (rw [show Int32.toInt 0 = 0 from rfl]; omega)) rfl (Nat.lt_succ_self _) H _ ls hP hD hS (lv_sub hl [0] rfl)
  refine lv_aload_n S.1 S.2.1 dX5_advance_52 rfl (lv_at hl 0 rfl) ?_
  refine lv_aload_n S.1 S.2.1 dX5_advance_53 rfl (lv_at hl 0 rfl) ?_
  refine b_get (v := .int b1_1) S iX5 hK hP 0 rfl rfl 4 (by decide) (by decide +kernel) rfl dX5_advance_54 ?_
  refine b_put (v := .int b1_1) S iX5 tyX5 tyX5_ok nmX5 hK hP hD hS 0 rfl rfl 3 (by decide) (by decide +kernel) rfl rfl rfl (Nat.le_of_ble_eq_true rfl) dX5_advance_57 (fun H locs hP hD hS => ?_)
  have hP : va_P D vwCl [(tp, .inr (5, [.ref by_, .int tz, .int ts, .int b1_1, .int b1_1, .int tv])), (by_, .inl (cI, 400, .inl f))] H := hP
  have hD : va_D A [(tp, .inr (5, [.ref by_, .int tz, .int ts, .int b1_1, .int b1_1, .int tv])), (by_, .inl (cI, 400, .inl f))] := hD
  refine lv_aload_n S.1 S.2.1 dX5_advance_60 rfl (lv_at hl 0 rfl) ?_
  refine b_get (v := .int b1_1) S iX5 hK hP 0 rfl rfl 3 (by decide) (by decide +kernel) rfl dX5_advance_61 ?_
  refine lv_aload_n S.1 S.2.1 dX5_advance_64 rfl (lv_at hl 0 rfl) ?_
  refine b_get (v := .int tz) S iX5 hK hP 0 rfl rfl 1 (by decide) (by decide +kernel) rfl dX5_advance_65 ?_
  refine lv_icmp_lt (tgt := 77) S.1 S.2.1 dX5_advance_68 (by decide) (fun c_6 => ?_) (fun c_6 => ?_)
  · rw [lt2 (a := b1_1) (b := tz) (A := b1_1.toInt) (B := tz.toInt) rfl rfl] at c_6
    refine lv_aload_n S.1 S.2.1 dX5_advance_77 rfl (lv_at hl 0 rfl) ?_
    refine lv_aload_n S.1 S.2.1 dX5_advance_78 rfl (lv_at hl 0 rfl) ?_
    refine b_get (v := .ref by_) S iX5 hK hP 0 rfl rfl 0 (by decide) (by decide +kernel) rfl dX5_advance_79 ?_
    refine lv_aload_n S.1 S.2.1 dX5_advance_82 rfl (lv_at hl 0 rfl) ?_
    refine b_get (v := .int b1_1) S iX5 hK hP 0 rfl rfl 3 (by decide) (by decide +kernel) rfl dX5_advance_83 ?_
    have hin_7 : vp_in b1_1 400 := (in_of (n := 400) (by  omega) (by  omega))
    refine va_iald S.1 S.2.1 hK.1 hP 1 0 rfl rfl hin_7 dX5_advance_86 ?_
    refine lv_topi (fun x_8 ex_8 => ?_)
    have tx_8 := rng_get (x := x_8) (show rng f 400 (0) (255) by assumption) hin_7 ex_8
    have qx_8 := tx_get (n := tz.toInt) (i := b1_1) (by first | (refine Int.le_antisymm ?_ ?_ <;> omega) | omega) (by first | (refine Int.le_antisymm ?_ ?_ <;> omega) | omega) ex_8
    refine b_ai (wr := [(tp, .inr (5, [.ref by_, .int tz, .int ts, .int b1_1, .int b1_1, .int tv])), (by_, .inl (cI, 400, .inl f))]) (b_runS (As := [.int x_8]) (s_X5_sortOf l D cI cZ cC cS sq H.size x_8) S gX5_advance_X5_sortOf rfl hdS_X5_sortOf ⟨Nat.le_of_ble_eq_true rfl, Nat.le_of_ble_eq_true rfl⟩ ⟨Nat.le_of_ble_eq_true rfl, Nat.le_of_ble_eq_true rfl⟩ hK hT hS hA hP hD [] rfl (by decide) rfl hl.1 rfl (Nat.le_of_ble_eq_true rfl) dX5_advance_87) hP hD hS hA [] [0, 1] rfl rfl (by decide) (by decide) (fun r_9 w_10 H locs hw_11 hP hD hS => ?_)
    rcases hw_11 with ⟨hf_12, rfl, rfl⟩ | ⟨hf_13, hf_14, rfl, rfl⟩ | ⟨hf_15, rfl, rfl⟩ | ⟨hf_16, rfl, rfl⟩
    · have hP : va_P D vwCl [(tp, .inr (5, [.ref by_, .int tz, .int ts, .int b1_1, .int b1_1, .int tv])), (by_, .inl (cI, 400, .inl f))] H := hP
      have hD : va_D A [(tp, .inr (5, [.ref by_, .int tz, .int ts, .int b1_1, .int b1_1, .int tv])), (by_, .inl (cI, 400, .inl f))] := hD
      refine b_put (v := .int 1) S iX5 tyX5 tyX5_ok nmX5 hK hP hD hS 0 rfl rfl 2 (by decide) (by decide +kernel) rfl rfl rfl (Nat.le_of_ble_eq_true rfl) dX5_advance_90 (fun H locs hP hD hS => ?_)
      have hP : va_P D vwCl [(tp, .inr (5, [.ref by_, .int tz, .int 1, .int b1_1, .int b1_1, .int tv])), (by_, .inl (cI, 400, .inl f))] H := hP
      have hD : va_D A [(tp, .inr (5, [.ref by_, .int tz, .int 1, .int b1_1, .int b1_1, .int tv])), (by_, .inl (cI, 400, .inl f))] := hD
      refine lv_aload_n S.1 S.2.1 dX5_advance_93 rfl (lv_at hl 0 rfl) ?_
      refine lv_dup S.1 S.2.1 dX5_advance_94 rfl ?_
      refine b_get (v := .int b1_1) S iX5 hK hP 0 rfl rfl 4 (by decide) (by decide +kernel) rfl dX5_advance_95 ?_
      refine lv_iconst (v := (1)) S.1 S.2.1 dX5_advance_98 (by decide) ?_
      refine lv_iadd S.1 S.2.1 dX5_advance_99 ?_
      refine lv_topi (fun x_17 ex_17 => ?_)
      have tx_17 : x_17.toInt = b1_1.toInt + (1) := addI (A := b1_1.toInt) (B := 1) ex_17 rfl rfl (by  omega) (by  omega)
      refine b_put (v := .int x_17) S iX5 tyX5 tyX5_ok nmX5 hK hP hD hS 0 rfl rfl 4 (by decide) (by decide +kernel) rfl rfl rfl (Nat.le_of_ble_eq_true rfl) dX5_advance_100 (fun H locs hP hD hS => ?_)
      have hP : va_P D vwCl [(tp, .inr (5, [.ref by_, .int tz, .int 1, .int b1_1, .int x_17, .int tv])), (by_, .inl (cI, 400, .inl f))] H := hP
      have hD : va_D A [(tp, .inr (5, [.ref by_, .int tz, .int 1, .int b1_1, .int x_17, .int tv])), (by_, .inl (cI, 400, .inl f))] := hD
      refine lp_advance2 l D cI cZ cC cS sq tp by_ tz ts ta tb tv f a0 hrg_f hz hb ht3 ((1)) b1_1 (by first | with_reducible assumption | (and_intros <;> first | with_reducible assumption | (intros; refine Int.le_antisymm ?_ ?_ <;> omega) | omega) | assumption | decide | (rw [show Int32.toInt 0 = 0 from rfl]; omega)) X hK hT hA (fun b2_18 hi_19 hi_20 hi_21 hi_22 hi_23 H locs ls hP hD hS hl => ?_) _ x_17 (by first | with_reducible assumption | assumption | omega | decide | (rw [show Int32.toInt 0 = 0 from rfl]; omega)) (by first | with_reducible assumption | (and_intros <;> first | with_reducible assumption | (intros; refine Int.le_antisymm ?_ ?_ <;> omega) | omega) | assumption | decide | (rw [show Int32.toInt 0 = 0 from rfl]; omega)) (by first | (intro hq; exact absurd hq (by first | omega | decide)) | (intro _; exact dgs_ext (i := b1_1) (b := b1_1.toInt) (fun j h1 h2 => absurd h2 (by first | (refine Int.le_antisymm ?_ ?_ <;> omega) | omega)) (by first | (refine Int.le_antisymm ?_ ?_ <;> omega) | omega) rfl (by first | (refine Int.le_antisymm ?_ ?_ <;> omega) | omega) (by assumption) (by assumption))) (congrArg (ee _ _) (by first | (refine Int.le_antisymm ?_ ?_ <;> omega) | omega)) (Nat.lt_succ_self _) H _ ls hP hD hS (lv_sub hl [0] rfl)
      refine lv_aload_n S.1 S.2.1 dX5_advance_162 rfl (lv_at hl 0 rfl) ?_
      refine b_get (v := .int 1) S iX5 hK hP 0 rfl rfl 2 (by decide) (by decide +kernel) rfl dX5_advance_163 ?_
      refine lv_iconst (v := (2)) S.1 S.2.1 dX5_advance_166 (by decide) ?_
      refine lv_icmp_ne (tgt := 174) S.1 S.2.1 dX5_advance_167 (by decide) (fun c_24 => ?_) (fun c_24 => absurd c_24 (by decide))
      have lq1 : Int32.toInt (1) = 1 := by decide
      exact b_vret S.1 S.2.1 X.2.1 X.2.2.1 hP hD hS ⟨(1), b1_1, b2_18, tv, (by first | with_reducible assumption | (and_intros <;> first | with_reducible assumption | (intros; refine Int.le_antisymm ?_ ?_ <;> omega) | omega) | assumption | decide | (rw [show Int32.toInt 0 = 0 from rfl]; omega)), (by first | assumption | (intro hq; exact absurd hq (by first | omega | decide))), (by first | exact tok_end (adv_p ht3 (by assumption) (by assumption)) (by first | (refine Int.le_antisymm ?_ ?_ <;> omega) | omega) (by first | rfl | omega) | exact tok_run (adv_p ht3 (by assumption) (by assumption)) (by assumption) (by first | (refine Int.le_antisymm ?_ ?_ <;> omega) | omega) (by first | assumption | omega) (by first | (refine Int.le_antisymm ?_ ?_ <;> omega) | omega) (by first | (refine Int.le_antisymm ?_ ?_ <;> omega) | omega) | exact tok_num (s0 := Int32.toInt 2) (adv_p ht3 (by assumption) (by assumption)) (by assumption) (by first | (refine Int.le_antisymm ?_ ?_ <;> omega) | omega) rfl (by first | assumption | omega) (by first | (refine Int.le_antisymm ?_ ?_ <;> omega) | omega) (by assumption)), rfl⟩ dX5_advance_174
    · have hP : va_P D vwCl [(tp, .inr (5, [.ref by_, .int tz, .int ts, .int b1_1, .int b1_1, .int tv])), (by_, .inl (cI, 400, .inl f))] H := hP
      have hD : va_D A [(tp, .inr (5, [.ref by_, .int tz, .int ts, .int b1_1, .int b1_1, .int tv])), (by_, .inl (cI, 400, .inl f))] := hD
      refine b_put (v := .int 2) S iX5 tyX5 tyX5_ok nmX5 hK hP hD hS 0 rfl rfl 2 (by decide) (by decide +kernel) rfl rfl rfl (Nat.le_of_ble_eq_true rfl) dX5_advance_90 (fun H locs hP hD hS => ?_)
      have hP : va_P D vwCl [(tp, .inr (5, [.ref by_, .int tz, .int 2, .int b1_1, .int b1_1, .int tv])), (by_, .inl (cI, 400, .inl f))] H := hP
      have hD : va_D A [(tp, .inr (5, [.ref by_, .int tz, .int 2, .int b1_1, .int b1_1, .int tv])), (by_, .inl (cI, 400, .inl f))] := hD
      refine lv_aload_n S.1 S.2.1 dX5_advance_93 rfl (lv_at hl 0 rfl) ?_
      refine lv_dup S.1 S.2.1 dX5_advance_94 rfl ?_
      refine b_get (v := .int b1_1) S iX5 hK hP 0 rfl rfl 4 (by decide) (by decide +kernel) rfl dX5_advance_95 ?_
      refine lv_iconst (v := (1)) S.1 S.2.1 dX5_advance_98 (by decide) ?_
      refine lv_iadd S.1 S.2.1 dX5_advance_99 ?_
      refine lv_topi (fun x_25 ex_25 => ?_)
      have tx_25 : x_25.toInt = b1_1.toInt + (1) := addI (A := b1_1.toInt) (B := 1) ex_25 rfl rfl (by  omega) (by  omega)
      refine b_put (v := .int x_25) S iX5 tyX5 tyX5_ok nmX5 hK hP hD hS 0 rfl rfl 4 (by decide) (by decide +kernel) rfl rfl rfl (Nat.le_of_ble_eq_true rfl) dX5_advance_100 (fun H locs hP hD hS => ?_)
      have hP : va_P D vwCl [(tp, .inr (5, [.ref by_, .int tz, .int 2, .int b1_1, .int x_25, .int tv])), (by_, .inl (cI, 400, .inl f))] H := hP
      have hD : va_D A [(tp, .inr (5, [.ref by_, .int tz, .int 2, .int b1_1, .int x_25, .int tv])), (by_, .inl (cI, 400, .inl f))] := hD
      refine lp_advance2 l D cI cZ cC cS sq tp by_ tz ts ta tb tv f a0 hrg_f hz hb ht3 ((2)) b1_1 (by first | with_reducible assumption | (and_intros <;> first | with_reducible assumption | (intros; refine Int.le_antisymm ?_ ?_ <;> omega) | omega) | assumption | decide | (rw [show Int32.toInt 0 = 0 from rfl]; omega)) X hK hT hA (fun b2_26 hi_27 hi_28 hi_29 hi_30 hi_31 H locs ls hP hD hS hl => ?_) _ x_25 (by first | with_reducible assumption | assumption | omega | decide | (rw [show Int32.toInt 0 = 0 from rfl]; omega)) (by first | with_reducible assumption | (and_intros <;> first | with_reducible assumption | (intros; refine Int.le_antisymm ?_ ?_ <;> omega) | omega) | assumption | decide | (rw [show Int32.toInt 0 = 0 from rfl]; omega)) (by first | (intro hq; exact absurd hq (by first | omega | decide)) | (intro _; exact dgs_ext (i := b1_1) (b := b1_1.toInt) (fun j h1 h2 => absurd h2 (by first | (refine Int.le_antisymm ?_ ?_ <;> omega) | omega)) (by first | (refine Int.le_antisymm ?_ ?_ <;> omega) | omega) rfl (by first | (refine Int.le_antisymm ?_ ?_ <;> omega) | omega) (by assumption) (by assumption))) (congrArg (ee _ _) (by first | (refine Int.le_antisymm ?_ ?_ <;> omega) | omega)) (Nat.lt_succ_self _) H _ ls hP hD hS (lv_sub hl [0] rfl)
      refine lv_aload_n S.1 S.2.1 dX5_advance_162 rfl (lv_at hl 0 rfl) ?_
      refine b_get (v := .int 2) S iX5 hK hP 0 rfl rfl 2 (by decide) (by decide +kernel) rfl dX5_advance_163 ?_
      refine lv_iconst (v := (2)) S.1 S.2.1 dX5_advance_166 (by decide) ?_
      refine lv_icmp_ne (tgt := 174) S.1 S.2.1 dX5_advance_167 (by decide) (fun c_32 => absurd c_32 (by decide)) (fun c_32 => ?_)
      refine lv_aload_n S.1 S.2.1 dX5_advance_170 rfl (lv_at hl 0 rfl) ?_
      refine b_av (wr := []) (b_runV (q0 := 0) (ci := 5) (As := []) (s_X5_readFigures l D cI cZ cC cS sq H.size tp by_ tz b1_1 b2_26 tv f (by first | with_reducible assumption | assumption | omega | decide | (rw [show Int32.toInt 0 = 0 from rfl]; omega)) (by first | with_reducible assumption | (and_intros <;> first | with_reducible assumption | (intros; refine Int.le_antisymm ?_ ?_ <;> omega) | omega) | assumption | decide | (rw [show Int32.toInt 0 = 0 from rfl]; omega)) (by first | assumption | exact (by assumption : _ → dgs _ _ _) rfl)) S gX5_advance_X5_readFigures rfl hdV_X5_readFigures ⟨Nat.le_of_ble_eq_true rfl, Nat.le_of_ble_eq_true rfl⟩ ⟨Nat.le_of_ble_eq_true rfl, Nat.le_of_ble_eq_true rfl⟩ hK hT hS hA hP hD rfl rfl [0, 1] rfl (by decide) rfl hl.1 rfl (Nat.le_of_ble_eq_true rfl) dX5_advance_171) hP hD hS hA [0, 1] [] rfl rfl (by decide) (by decide) (fun w_34 H locs hw_35 hP hD hS => ?_)
      obtain ⟨ts2_36, tv2_37, hf_38, hf_39, hf_40, rfl⟩ := hw_35
      have hP : va_P D vwCl [(tp, .inr (5, [.ref by_, .int tz, .int ts2_36, .int b1_1, .int b2_26, .int tv2_37])), (by_, .inl (cI, 400, .inl f))] H := hP
      have hD : va_D A [(tp, .inr (5, [.ref by_, .int tz, .int ts2_36, .int b1_1, .int b2_26, .int tv2_37])), (by_, .inl (cI, 400, .inl f))] := hD
      exact b_vret S.1 S.2.1 X.2.1 X.2.2.1 hP hD hS ⟨ts2_36, b1_1, b2_26, tv2_37, (by first | with_reducible assumption | (and_intros <;> first | with_reducible assumption | (intros; refine Int.le_antisymm ?_ ?_ <;> omega) | omega) | assumption | decide | (rw [show Int32.toInt 0 = 0 from rfl]; omega)), (by first | assumption | (intro hq; exact absurd hq (by first | omega | decide))), (by first | exact tok_end (adv_p ht3 (by assumption) (by assumption)) (by first | (refine Int.le_antisymm ?_ ?_ <;> omega) | omega) (by first | rfl | omega) | exact tok_run (adv_p ht3 (by assumption) (by assumption)) (by assumption) (by first | (refine Int.le_antisymm ?_ ?_ <;> omega) | omega) (by first | assumption | omega) (by first | (refine Int.le_antisymm ?_ ?_ <;> omega) | omega) (by first | (refine Int.le_antisymm ?_ ?_ <;> omega) | omega) | exact tok_num (s0 := Int32.toInt 2) (adv_p ht3 (by assumption) (by assumption)) (by assumption) (by first | (refine Int.le_antisymm ?_ ?_ <;> omega) | omega) rfl (by first | assumption | omega) (by first | (refine Int.le_antisymm ?_ ?_ <;> omega) | omega) (by assumption)), rfl⟩ dX5_advance_174
    · have hP : va_P D vwCl [(tp, .inr (5, [.ref by_, .int tz, .int ts, .int b1_1, .int b1_1, .int tv])), (by_, .inl (cI, 400, .inl f))] H := hP
      have hD : va_D A [(tp, .inr (5, [.ref by_, .int tz, .int ts, .int b1_1, .int b1_1, .int tv])), (by_, .inl (cI, 400, .inl f))] := hD
      refine b_put (v := .int 3) S iX5 tyX5 tyX5_ok nmX5 hK hP hD hS 0 rfl rfl 2 (by decide) (by decide +kernel) rfl rfl rfl (Nat.le_of_ble_eq_true rfl) dX5_advance_90 (fun H locs hP hD hS => ?_)
      have hP : va_P D vwCl [(tp, .inr (5, [.ref by_, .int tz, .int 3, .int b1_1, .int b1_1, .int tv])), (by_, .inl (cI, 400, .inl f))] H := hP
      have hD : va_D A [(tp, .inr (5, [.ref by_, .int tz, .int 3, .int b1_1, .int b1_1, .int tv])), (by_, .inl (cI, 400, .inl f))] := hD
      refine lv_aload_n S.1 S.2.1 dX5_advance_93 rfl (lv_at hl 0 rfl) ?_
      refine lv_dup S.1 S.2.1 dX5_advance_94 rfl ?_
      refine b_get (v := .int b1_1) S iX5 hK hP 0 rfl rfl 4 (by decide) (by decide +kernel) rfl dX5_advance_95 ?_
      refine lv_iconst (v := (1)) S.1 S.2.1 dX5_advance_98 (by decide) ?_
      refine lv_iadd S.1 S.2.1 dX5_advance_99 ?_
      refine lv_topi (fun x_41 ex_41 => ?_)
      have tx_41 : x_41.toInt = b1_1.toInt + (1) := addI (A := b1_1.toInt) (B := 1) ex_41 rfl rfl (by  omega) (by  omega)
      refine b_put (v := .int x_41) S iX5 tyX5 tyX5_ok nmX5 hK hP hD hS 0 rfl rfl 4 (by decide) (by decide +kernel) rfl rfl rfl (Nat.le_of_ble_eq_true rfl) dX5_advance_100 (fun H locs hP hD hS => ?_)
      have hP : va_P D vwCl [(tp, .inr (5, [.ref by_, .int tz, .int 3, .int b1_1, .int x_41, .int tv])), (by_, .inl (cI, 400, .inl f))] H := hP
      have hD : va_D A [(tp, .inr (5, [.ref by_, .int tz, .int 3, .int b1_1, .int x_41, .int tv])), (by_, .inl (cI, 400, .inl f))] := hD
      refine lp_advance2 l D cI cZ cC cS sq tp by_ tz ts ta tb tv f a0 hrg_f hz hb ht3 ((3)) b1_1 (by first | with_reducible assumption | (and_intros <;> first | with_reducible assumption | (intros; refine Int.le_antisymm ?_ ?_ <;> omega) | omega) | assumption | decide | (rw [show Int32.toInt 0 = 0 from rfl]; omega)) X hK hT hA (fun b2_42 hi_43 hi_44 hi_45 hi_46 hi_47 H locs ls hP hD hS hl => ?_) _ x_41 (by first | with_reducible assumption | assumption | omega | decide | (rw [show Int32.toInt 0 = 0 from rfl]; omega)) (by first | with_reducible assumption | (and_intros <;> first | with_reducible assumption | (intros; refine Int.le_antisymm ?_ ?_ <;> omega) | omega) | assumption | decide | (rw [show Int32.toInt 0 = 0 from rfl]; omega)) (by first | (intro hq; exact absurd hq (by first | omega | decide)) | (intro _; exact dgs_ext (i := b1_1) (b := b1_1.toInt) (fun j h1 h2 => absurd h2 (by first | (refine Int.le_antisymm ?_ ?_ <;> omega) | omega)) (by first | (refine Int.le_antisymm ?_ ?_ <;> omega) | omega) rfl (by first | (refine Int.le_antisymm ?_ ?_ <;> omega) | omega) (by assumption) (by assumption))) (congrArg (ee _ _) (by first | (refine Int.le_antisymm ?_ ?_ <;> omega) | omega)) (Nat.lt_succ_self _) H _ ls hP hD hS (lv_sub hl [0] rfl)
      refine lv_aload_n S.1 S.2.1 dX5_advance_162 rfl (lv_at hl 0 rfl) ?_
      refine b_get (v := .int 3) S iX5 hK hP 0 rfl rfl 2 (by decide) (by decide +kernel) rfl dX5_advance_163 ?_
      refine lv_iconst (v := (2)) S.1 S.2.1 dX5_advance_166 (by decide) ?_
      refine lv_icmp_ne (tgt := 174) S.1 S.2.1 dX5_advance_167 (by decide) (fun c_48 => ?_) (fun c_48 => absurd c_48 (by decide))
      have lq3 : Int32.toInt (3) = 3 := by decide
      exact b_vret S.1 S.2.1 X.2.1 X.2.2.1 hP hD hS ⟨(3), b1_1, b2_42, tv, (by first | with_reducible assumption | (and_intros <;> first | with_reducible assumption | (intros; refine Int.le_antisymm ?_ ?_ <;> omega) | omega) | assumption | decide | (rw [show Int32.toInt 0 = 0 from rfl]; omega)), (by first | assumption | (intro hq; exact absurd hq (by first | omega | decide))), (by first | exact tok_end (adv_p ht3 (by assumption) (by assumption)) (by first | (refine Int.le_antisymm ?_ ?_ <;> omega) | omega) (by first | rfl | omega) | exact tok_run (adv_p ht3 (by assumption) (by assumption)) (by assumption) (by first | (refine Int.le_antisymm ?_ ?_ <;> omega) | omega) (by first | assumption | omega) (by first | (refine Int.le_antisymm ?_ ?_ <;> omega) | omega) (by first | (refine Int.le_antisymm ?_ ?_ <;> omega) | omega) | exact tok_num (s0 := Int32.toInt 2) (adv_p ht3 (by assumption) (by assumption)) (by assumption) (by first | (refine Int.le_antisymm ?_ ?_ <;> omega) | omega) rfl (by first | assumption | omega) (by first | (refine Int.le_antisymm ?_ ?_ <;> omega) | omega) (by assumption)), rfl⟩ dX5_advance_174
    · have hP : va_P D vwCl [(tp, .inr (5, [.ref by_, .int tz, .int ts, .int b1_1, .int b1_1, .int tv])), (by_, .inl (cI, 400, .inl f))] H := hP
      have hD : va_D A [(tp, .inr (5, [.ref by_, .int tz, .int ts, .int b1_1, .int b1_1, .int tv])), (by_, .inl (cI, 400, .inl f))] := hD
      refine b_put (v := .int 4) S iX5 tyX5 tyX5_ok nmX5 hK hP hD hS 0 rfl rfl 2 (by decide) (by decide +kernel) rfl rfl rfl (Nat.le_of_ble_eq_true rfl) dX5_advance_90 (fun H locs hP hD hS => ?_)
      have hP : va_P D vwCl [(tp, .inr (5, [.ref by_, .int tz, .int 4, .int b1_1, .int b1_1, .int tv])), (by_, .inl (cI, 400, .inl f))] H := hP
      have hD : va_D A [(tp, .inr (5, [.ref by_, .int tz, .int 4, .int b1_1, .int b1_1, .int tv])), (by_, .inl (cI, 400, .inl f))] := hD
      refine lv_aload_n S.1 S.2.1 dX5_advance_93 rfl (lv_at hl 0 rfl) ?_
      refine lv_dup S.1 S.2.1 dX5_advance_94 rfl ?_
      refine b_get (v := .int b1_1) S iX5 hK hP 0 rfl rfl 4 (by decide) (by decide +kernel) rfl dX5_advance_95 ?_
      refine lv_iconst (v := (1)) S.1 S.2.1 dX5_advance_98 (by decide) ?_
      refine lv_iadd S.1 S.2.1 dX5_advance_99 ?_
      refine lv_topi (fun x_49 ex_49 => ?_)
      have tx_49 : x_49.toInt = b1_1.toInt + (1) := addI (A := b1_1.toInt) (B := 1) ex_49 rfl rfl (by  omega) (by  omega)
      refine b_put (v := .int x_49) S iX5 tyX5 tyX5_ok nmX5 hK hP hD hS 0 rfl rfl 4 (by decide) (by decide +kernel) rfl rfl rfl (Nat.le_of_ble_eq_true rfl) dX5_advance_100 (fun H locs hP hD hS => ?_)
      have hP : va_P D vwCl [(tp, .inr (5, [.ref by_, .int tz, .int 4, .int b1_1, .int x_49, .int tv])), (by_, .inl (cI, 400, .inl f))] H := hP
      have hD : va_D A [(tp, .inr (5, [.ref by_, .int tz, .int 4, .int b1_1, .int x_49, .int tv])), (by_, .inl (cI, 400, .inl f))] := hD
      refine lp_advance2 l D cI cZ cC cS sq tp by_ tz ts ta tb tv f a0 hrg_f hz hb ht3 ((4)) b1_1 (by first | with_reducible assumption | (and_intros <;> first | with_reducible assumption | (intros; refine Int.le_antisymm ?_ ?_ <;> omega) | omega) | assumption | decide | (rw [show Int32.toInt 0 = 0 from rfl]; omega)) X hK hT hA (fun b2_50 hi_51 hi_52 hi_53 hi_54 hi_55 H locs ls hP hD hS hl => ?_) _ x_49 (by first | with_reducible assumption | assumption | omega | decide | (rw [show Int32.toInt 0 = 0 from rfl]; omega)) (by first | with_reducible assumption | (and_intros <;> first | with_reducible assumption | (intros; refine Int.le_antisymm ?_ ?_ <;> omega) | omega) | assumption | decide | (rw [show Int32.toInt 0 = 0 from rfl]; omega)) (by first | (intro hq; exact absurd hq (by first | omega | decide)) | (intro _; exact dgs_ext (i := b1_1) (b := b1_1.toInt) (fun j h1 h2 => absurd h2 (by first | (refine Int.le_antisymm ?_ ?_ <;> omega) | omega)) (by first | (refine Int.le_antisymm ?_ ?_ <;> omega) | omega) rfl (by first | (refine Int.le_antisymm ?_ ?_ <;> omega) | omega) (by assumption) (by assumption))) (congrArg (ee _ _) (by first | (refine Int.le_antisymm ?_ ?_ <;> omega) | omega)) (Nat.lt_succ_self _) H _ ls hP hD hS (lv_sub hl [0] rfl)
      refine lv_aload_n S.1 S.2.1 dX5_advance_162 rfl (lv_at hl 0 rfl) ?_
      refine b_get (v := .int 4) S iX5 hK hP 0 rfl rfl 2 (by decide) (by decide +kernel) rfl dX5_advance_163 ?_
      refine lv_iconst (v := (2)) S.1 S.2.1 dX5_advance_166 (by decide) ?_
      refine lv_icmp_ne (tgt := 174) S.1 S.2.1 dX5_advance_167 (by decide) (fun c_56 => ?_) (fun c_56 => absurd c_56 (by decide))
      have lq4 : Int32.toInt (4) = 4 := by decide
      exact b_vret S.1 S.2.1 X.2.1 X.2.2.1 hP hD hS ⟨(4), b1_1, b2_50, tv, (by first | with_reducible assumption | (and_intros <;> first | with_reducible assumption | (intros; refine Int.le_antisymm ?_ ?_ <;> omega) | omega) | assumption | decide | (rw [show Int32.toInt 0 = 0 from rfl]; omega)), (by first | assumption | (intro hq; exact absurd hq (by first | omega | decide))), (by first | exact tok_end (adv_p ht3 (by assumption) (by assumption)) (by first | (refine Int.le_antisymm ?_ ?_ <;> omega) | omega) (by first | rfl | omega) | exact tok_run (adv_p ht3 (by assumption) (by assumption)) (by assumption) (by first | (refine Int.le_antisymm ?_ ?_ <;> omega) | omega) (by first | assumption | omega) (by first | (refine Int.le_antisymm ?_ ?_ <;> omega) | omega) (by first | (refine Int.le_antisymm ?_ ?_ <;> omega) | omega) | exact tok_num (s0 := Int32.toInt 2) (adv_p ht3 (by assumption) (by assumption)) (by assumption) (by first | (refine Int.le_antisymm ?_ ?_ <;> omega) | omega) rfl (by first | assumption | omega) (by first | (refine Int.le_antisymm ?_ ?_ <;> omega) | omega) (by assumption)), rfl⟩ dX5_advance_174
  · rw [lt2 (a := b1_1) (b := tz) (A := b1_1.toInt) (B := tz.toInt) rfl rfl] at c_6
    refine lv_aload_n S.1 S.2.1 dX5_advance_71 rfl (lv_at hl 0 rfl) ?_
    refine lv_iconst (v := (0)) S.1 S.2.1 dX5_advance_72 (by decide) ?_
    refine b_put (v := .int 0) S iX5 tyX5 tyX5_ok nmX5 hK hP hD hS 0 rfl rfl 2 (by decide) (by decide +kernel) rfl rfl rfl (Nat.le_of_ble_eq_true rfl) dX5_advance_73 (fun H locs hP hD hS => ?_)
    have hP : va_P D vwCl [(tp, .inr (5, [.ref by_, .int tz, .int 0, .int b1_1, .int b1_1, .int tv])), (by_, .inl (cI, 400, .inl f))] H := hP
    have hD : va_D A [(tp, .inr (5, [.ref by_, .int tz, .int 0, .int b1_1, .int b1_1, .int tv])), (by_, .inl (cI, 400, .inl f))] := hD
    have lq0 : Int32.toInt (0) = 0 := by decide
    exact b_vret S.1 S.2.1 X.2.1 X.2.2.1 hP hD hS ⟨(0), b1_1, b1_1, tv, (by first | with_reducible assumption | (and_intros <;> first | with_reducible assumption | (intros; refine Int.le_antisymm ?_ ?_ <;> omega) | omega) | assumption | decide | (rw [show Int32.toInt 0 = 0 from rfl]; omega)), (by first | assumption | (intro hq; exact absurd hq (by first | omega | decide))), (by first | exact tok_end (adv_p ht3 (by assumption) (by assumption)) (by first | (refine Int.le_antisymm ?_ ?_ <;> omega) | omega) (by first | rfl | omega) | exact tok_run (adv_p ht3 (by assumption) (by assumption)) (by assumption) (by first | (refine Int.le_antisymm ?_ ?_ <;> omega) | omega) (by first | assumption | omega) (by first | (refine Int.le_antisymm ?_ ?_ <;> omega) | omega) (by first | (refine Int.le_antisymm ?_ ?_ <;> omega) | omega) | exact tok_num (s0 := Int32.toInt 2) (adv_p ht3 (by assumption) (by assumption)) (by assumption) (by first | (refine Int.le_antisymm ?_ ?_ <;> omega) | omega) rfl (by first | assumption | omega) (by first | (refine Int.le_antisymm ?_ ?_ <;> omega) | omega) (by assumption)), rfl⟩ dX5_advance_76
set_option maxHeartbeats 4000000 in
set_option maxRecDepth 100000 in
theorem lp_advance1_0 {p : Program} (l : Launch) {e : Env} {s : State} {m : MethodId} {below : List Frame} {meth : Method} {c : Code} (D : va_G) (cI cZ cC cS : ClassId) (sq : Nat → Nat) (tp : Nat) (by_ : Nat) (tz : Int32) (ts : Int32) (ta : Int32) (tv : Int32) (f : Nat → Int32) (hrg_f : rng f 400 (0) (255)) (hz : 0 ≤ tz.toInt ∧ tz.toInt ≤ 400) {A : Nat → Prop} (X : bX p s m meth c cX5_advance 1 wsX5_advance yX5_advance none [.ref tp]) (hK : kW D (tyW cI cZ cC cS) sq s) (hT : sT sq A s s.heap) (hA : ∀ q, s.heap.size ≤ q → A q) (K : ∀ (b1 : Int32), (rng f 400 (0) (255)) → (0 ≤ b1.toInt ∧ b1.toInt ≤ tz.toInt) → (tS (tx f tz.toInt) b1.toInt = tS (tx f tz.toInt) (0 : Int)) → (tS (tx f tz.toInt) b1.toInt = b1.toInt) → ∀ (H : Heap) (locs : List Loc) (ls : Array Slot), va_P D vwCl [(tp, .inr (5, [.ref by_, .int tz, .int ts, .int ta, .int b1, .int tv])), (by_, .inl (cI, 400, .inl f))] H → va_D A [(tp, .inr (5, [.ref by_, .int tz, .int ts, .int ta, .int b1, .int tv])), (by_, .inl (cI, 400, .inl f))] → va_S A s.heap H locs → lv_has ls 1 [(0, .ref tp)] → W p l e (rmW 1 40 0 0) s m ([.ref tp] : List Value).toArray below meth c H locs 0 0 (MQ below (va_Qv (fun w => (∃ (ts2 : Int32), ∃ (ta2 : Int32), ∃ (tb2 : Int32), ∃ (tv2 : Int32), (0 ≤ ta2.toInt ∧ ta2.toInt ≤ tb2.toInt ∧ tb2.toInt ≤ tz.toInt) ∧ (ts2.toInt = 2 → 0 ≤ tv2.toInt ∧ tv2.toInt ≤ 999) ∧ (tok (tx f tz.toInt) (tS (tx f tz.toInt) 0) ts2.toInt ta2.toInt tb2.toInt tv2.toInt) ∧ w = [(tp, .inr (5, [.ref by_, .int tz, .int ts2, .int ta2, .int tb2, .int tv2])), (by_, .inl (cI, 400, .inl f))])) (wD D A) A) ([.ref tp] : List Value).toArray s 0 0 A) (F0 m 52 ls [])) : ∀ (mN : Nat) (b1 : Int32), (rng f 400 (0) (255)) → (0 ≤ b1.toInt ∧ b1.toInt ≤ tz.toInt) → (tS (tx f tz.toInt) b1.toInt = tS (tx f tz.toInt) (0 : Int)) → ((400 - b1.toInt).toNat < mN) → ∀ (H : Heap) (locs : List Loc) (ls : Array Slot), va_P D vwCl [(tp, .inr (5, [.ref by_, .int tz, .int ts, .int ta, .int b1, .int tv])), (by_, .inl (cI, 400, .inl f))] H → va_D A [(tp, .inr (5, [.ref by_, .int tz, .int ts, .int ta, .int b1, .int tv])), (by_, .inl (cI, 400, .inl f))] → va_S A s.heap H locs → lv_has ls 1 [(0, .ref tp)] → W p l e (rmW 1 40 0 0) s m ([.ref tp] : List Value).toArray below meth c H locs 0 0 (MQ below (va_Qv (fun w => (∃ (ts2 : Int32), ∃ (ta2 : Int32), ∃ (tb2 : Int32), ∃ (tv2 : Int32), (0 ≤ ta2.toInt ∧ ta2.toInt ≤ tb2.toInt ∧ tb2.toInt ≤ tz.toInt) ∧ (ts2.toInt = 2 → 0 ≤ tv2.toInt ∧ tv2.toInt ≤ 999) ∧ (tok (tx f tz.toInt) (tS (tx f tz.toInt) 0) ts2.toInt ta2.toInt tb2.toInt tv2.toInt) ∧ w = [(tp, .inr (5, [.ref by_, .int tz, .int ts2, .int ta2, .int tb2, .int tv2])), (by_, .inl (cI, 400, .inl f))])) (wD D A) A) ([.ref tp] : List Value).toArray s 0 0 A) (F0 m 0 ls []) := by
  have S : CallFix p m c cX5_advance 1 s ([.ref tp] : List Value).toArray wsX5_advance RX5 := X.1
  have iX5 := jX5_advance_X5
  intro mN
  induction mN with
  | zero => intro b1 hrg_f hi hs1 hm; exact absurd hm (Nat.not_lt_zero _)
  | succ mN ih =>
    intro b1 hrg_f hi hs1 hm H locs ls hP hD hS hl
    refine lv_aload_n S.1 S.2.1 dX5_advance_0 rfl (lv_at hl 0 rfl) ?_
    refine b_get (v := .int b1) S iX5 hK hP 0 rfl rfl 4 (by decide) (by decide +kernel) rfl dX5_advance_1 ?_
    refine lv_aload_n S.1 S.2.1 dX5_advance_4 rfl (lv_at hl 0 rfl) ?_
    refine b_get (v := .int tz) S iX5 hK hP 0 rfl rfl 1 (by decide) (by decide +kernel) rfl dX5_advance_5 ?_
    refine lv_icmp_ge (tgt := 52) S.1 S.2.1 dX5_advance_8 (by decide) (fun c_101 => ?_) (fun c_101 => ?_)
    · rw [le2 (a := tz) (b := b1) (A := tz.toInt) (B := b1.toInt) rfl rfl] at c_101
      exact K b1 (by first | with_reducible assumption | assumption | omega | decide | (rw [show Int32.toInt 0 = 0 from rfl]; omega)) (by first | with_reducible assumption | (and_intros <;> first | with_reducible assumption | (intros; refine Int.le_antisymm ?_ ?_ <;> omega) | omega) | assumption | decide | (rw [show Int32.toInt 0 = 0 from rfl]; omega)) (by first | assumption | exact tS_bl hs1 (by assumption) (by first | (refine Int.le_antisymm ?_ ?_ <;> omega) | omega) (by first | (refine Int.le_antisymm ?_ ?_ <;> omega) | omega) (by first | (refine Int.le_antisymm ?_ ?_ <;> omega) | omega)) (by first | exact tS_out (by first | (refine Int.le_antisymm ?_ ?_ <;> omega) | omega) | exact tS_ne (by assumption) (by first | (refine Int.le_antisymm ?_ ?_ <;> omega) | omega) (by first | (refine Int.le_antisymm ?_ ?_ <;> omega) | omega)) H _ ls hP hD hS (lv_sub hl [0] rfl)
    · rw [le2 (a := tz) (b := b1) (A := tz.toInt) (B := b1.toInt) rfl rfl] at c_101
      refine lv_aload_n S.1 S.2.1 dX5_advance_11 rfl (lv_at hl 0 rfl) ?_
      refine b_get (v := .ref by_) S iX5 hK hP 0 rfl rfl 0 (by decide) (by decide +kernel) rfl dX5_advance_12 ?_
      refine lv_aload_n S.1 S.2.1 dX5_advance_15 rfl (lv_at hl 0 rfl) ?_
      refine b_get (v := .int b1) S iX5 hK hP 0 rfl rfl 4 (by decide) (by decide +kernel) rfl dX5_advance_16 ?_
      have hin_102 : vp_in b1 400 := (in_of (n := 400) (by  omega) (by  omega))
      refine va_iald S.1 S.2.1 hK.1 hP 1 0 rfl rfl hin_102 dX5_advance_19 ?_
      refine lv_topi (fun x_103 ex_103 => ?_)
      have tx_103 := rng_get (x := x_103) (show rng f 400 (0) (255) by assumption) hin_102 ex_103
      have qx_103 := tx_get (n := tz.toInt) (i := b1) (by first | (refine Int.le_antisymm ?_ ?_ <;> omega) | omega) (by first | (refine Int.le_antisymm ?_ ?_ <;> omega) | omega) ex_103
      refine lv_bipush (v := (32)) S.1 S.2.1 dX5_advance_20 (by decide) ?_
      refine lv_icmp_eq (tgt := 39) S.1 S.2.1 dX5_advance_22 (by decide) (fun c_104 => ?_) (fun c_104 => ?_)
      · rw [eq2 (a := x_103) (b := 32) (A := x_103.toInt) (B := 32) rfl rfl] at c_104
        refine lv_aload_n S.1 S.2.1 dX5_advance_39 rfl (lv_at hl 0 rfl) ?_
        refine lv_dup S.1 S.2.1 dX5_advance_40 rfl ?_
        refine b_get (v := .int b1) S iX5 hK hP 0 rfl rfl 4 (by decide) (by decide +kernel) rfl dX5_advance_41 ?_
        refine lv_iconst (v := (1)) S.1 S.2.1 dX5_advance_44 (by decide) ?_
        refine lv_iadd S.1 S.2.1 dX5_advance_45 ?_
        refine lv_topi (fun x_105 ex_105 => ?_)
        have tx_105 : x_105.toInt = b1.toInt + (1) := addI (A := b1.toInt) (B := 1) ex_105 rfl rfl (by  omega) (by  omega)
        refine b_put (v := .int x_105) S iX5 tyX5 tyX5_ok nmX5 hK hP hD hS 0 rfl rfl 4 (by decide) (by decide +kernel) rfl rfl rfl (Nat.le_of_ble_eq_true rfl) dX5_advance_46 (fun H locs hP hD hS => ?_)
        have hP : va_P D vwCl [(tp, .inr (5, [.ref by_, .int tz, .int ts, .int ta, .int x_105, .int tv])), (by_, .inl (cI, 400, .inl f))] H := hP
        have hD : va_D A [(tp, .inr (5, [.ref by_, .int tz, .int ts, .int ta, .int x_105, .int tv])), (by_, .inl (cI, 400, .inl f))] := hD
        refine lv_goto (tgt := 0) S.1 S.2.1 dX5_advance_49 (by decide) ?_
        exact ih x_105 (by first | with_reducible assumption | assumption | omega | decide | (rw [show Int32.toInt 0 = 0 from rfl]; omega)) (by first | with_reducible assumption | (and_intros <;> first | with_reducible assumption | (intros; refine Int.le_antisymm ?_ ?_ <;> omega) | omega) | assumption | decide | (rw [show Int32.toInt 0 = 0 from rfl]; omega)) (by first | assumption | exact tS_bl hs1 (by assumption) (by first | (refine Int.le_antisymm ?_ ?_ <;> omega) | omega) (by first | (refine Int.le_antisymm ?_ ?_ <;> omega) | omega) (by first | (refine Int.le_antisymm ?_ ?_ <;> omega) | omega)) (by first | (refine Int.le_antisymm ?_ ?_ <;> omega) | omega) H _ ls hP hD hS (lv_sub hl [0] rfl)
      · rw [eq2 (a := x_103) (b := 32) (A := x_103.toInt) (B := 32) rfl rfl] at c_104
        refine lv_aload_n S.1 S.2.1 dX5_advance_25 rfl (lv_at hl 0 rfl) ?_
        refine b_get (v := .ref by_) S iX5 hK hP 0 rfl rfl 0 (by decide) (by decide +kernel) rfl dX5_advance_26 ?_
        refine lv_aload_n S.1 S.2.1 dX5_advance_29 rfl (lv_at hl 0 rfl) ?_
        refine b_get (v := .int b1) S iX5 hK hP 0 rfl rfl 4 (by decide) (by decide +kernel) rfl dX5_advance_30 ?_
        have hin_106 : vp_in b1 400 := (in_of (n := 400) (by  omega) (by  omega))
        refine va_iald S.1 S.2.1 hK.1 hP 1 0 rfl rfl hin_106 dX5_advance_33 ?_
        refine lv_topi (fun x_107 ex_107 => ?_)
        have tx_107 := rng_get (x := x_107) (show rng f 400 (0) (255) by assumption) hin_106 ex_107
        have qx_107 := tx_get (n := tz.toInt) (i := b1) (by first | (refine Int.le_antisymm ?_ ?_ <;> omega) | omega) (by first | (refine Int.le_antisymm ?_ ?_ <;> omega) | omega) ex_107
        have lx_107 : x_107.toInt = x_103.toInt := by rw [ex_107, ex_103]
        refine lv_bipush (v := (10)) S.1 S.2.1 dX5_advance_34 (by decide) ?_
        refine lv_icmp_ne (tgt := 52) S.1 S.2.1 dX5_advance_36 (by decide) (fun c_108 => ?_) (fun c_108 => ?_)
        · rw [eq2 (a := x_107) (b := 10) (A := x_107.toInt) (B := 10) rfl rfl] at c_108
          exact K b1 (by first | with_reducible assumption | assumption | omega | decide | (rw [show Int32.toInt 0 = 0 from rfl]; omega)) (by first | with_reducible assumption | (and_intros <;> first | with_reducible assumption | (intros; refine Int.le_antisymm ?_ ?_ <;> omega) | omega) | assumption | decide | (rw [show Int32.toInt 0 = 0 from rfl]; omega)) (by first | assumption | exact tS_bl hs1 (by assumption) (by first | (refine Int.le_antisymm ?_ ?_ <;> omega) | omega) (by first | (refine Int.le_antisymm ?_ ?_ <;> omega) | omega) (by first | (refine Int.le_antisymm ?_ ?_ <;> omega) | omega)) (by first | exact tS_out (by first | (refine Int.le_antisymm ?_ ?_ <;> omega) | omega) | exact tS_ne (by assumption) (by first | (refine Int.le_antisymm ?_ ?_ <;> omega) | omega) (by first | (refine Int.le_antisymm ?_ ?_ <;> omega) | omega)) H _ ls hP hD hS (lv_sub hl [0] rfl)
        · rw [eq2 (a := x_107) (b := 10) (A := x_107.toInt) (B := 10) rfl rfl] at c_108
          refine lv_aload_n S.1 S.2.1 dX5_advance_39 rfl (lv_at hl 0 rfl) ?_
          refine lv_dup S.1 S.2.1 dX5_advance_40 rfl ?_
          refine b_get (v := .int b1) S iX5 hK hP 0 rfl rfl 4 (by decide) (by decide +kernel) rfl dX5_advance_41 ?_
          refine lv_iconst (v := (1)) S.1 S.2.1 dX5_advance_44 (by decide) ?_
          refine lv_iadd S.1 S.2.1 dX5_advance_45 ?_
          refine lv_topi (fun x_109 ex_109 => ?_)
          have tx_109 : x_109.toInt = b1.toInt + (1) := addI (A := b1.toInt) (B := 1) ex_109 rfl rfl (by  omega) (by  omega)
          refine b_put (v := .int x_109) S iX5 tyX5 tyX5_ok nmX5 hK hP hD hS 0 rfl rfl 4 (by decide) (by decide +kernel) rfl rfl rfl (Nat.le_of_ble_eq_true rfl) dX5_advance_46 (fun H locs hP hD hS => ?_)
          have hP : va_P D vwCl [(tp, .inr (5, [.ref by_, .int tz, .int ts, .int ta, .int x_109, .int tv])), (by_, .inl (cI, 400, .inl f))] H := hP
          have hD : va_D A [(tp, .inr (5, [.ref by_, .int tz, .int ts, .int ta, .int x_109, .int tv])), (by_, .inl (cI, 400, .inl f))] := hD
          refine lv_goto (tgt := 0) S.1 S.2.1 dX5_advance_49 (by decide) ?_
          exact ih x_109 (by first | with_reducible assumption | assumption | omega | decide | (rw [show Int32.toInt 0 = 0 from rfl]; omega)) (by first | with_reducible assumption | (and_intros <;> first | with_reducible assumption | (intros; refine Int.le_antisymm ?_ ?_ <;> omega) | omega) | assumption | decide | (rw [show Int32.toInt 0 = 0 from rfl]; omega)) (by first | assumption | exact tS_bl hs1 (by assumption) (by first | (refine Int.le_antisymm ?_ ?_ <;> omega) | omega) (by first | (refine Int.le_antisymm ?_ ?_ <;> omega) | omega) (by first | (refine Int.le_antisymm ?_ ?_ <;> omega) | omega)) (by first | (refine Int.le_antisymm ?_ ?_ <;> omega) | omega) H _ ls hP hD hS (lv_sub hl [0] rfl)
set_option maxHeartbeats 4000000 in
set_option maxRecDepth 100000 in
theorem lp_advance2_0 {p : Program} (l : Launch) {e : Env} {s : State} {m : MethodId} {below : List Frame} {meth : Method} {c : Code} (D : va_G) (cI cZ cC cS : ClassId) (sq : Nat → Nat) (tp : Nat) (by_ : Nat) (tz : Int32) (ts : Int32) (ta : Int32) (tv : Int32) (f : Nat → Int32) (hrg_f : rng f 400 (0) (255)) (hz : 0 ≤ tz.toInt ∧ tz.toInt ≤ 400) (s1 : Int32) (a1 : Int32) (ha1 : 0 ≤ a1.toInt) {A : Nat → Prop} (X : bX p s m meth c cX5_advance 1 wsX5_advance yX5_advance none [.ref tp]) (hK : kW D (tyW cI cZ cC cS) sq s) (hT : sT sq A s s.heap) (hA : ∀ q, s.heap.size ≤ q → A q) (K : ∀ (b2 : Int32), (rng f 400 (0) (255)) → (a1.toInt < b2.toInt ∧ b2.toInt ≤ tz.toInt) → (s1.toInt = 2 → dgs f a1.toInt b2.toInt) → (ee (tx f tz.toInt) s1.toInt b2.toInt = ee (tx f tz.toInt) s1.toInt (a1.toInt + 1)) → (ee (tx f tz.toInt) s1.toInt b2.toInt = b2.toInt) → ∀ (H : Heap) (locs : List Loc) (ls : Array Slot), va_P D vwCl [(tp, .inr (5, [.ref by_, .int tz, .int s1, .int a1, .int b2, .int tv])), (by_, .inl (cI, 400, .inl f))] H → va_D A [(tp, .inr (5, [.ref by_, .int tz, .int s1, .int a1, .int b2, .int tv])), (by_, .inl (cI, 400, .inl f))] → va_S A s.heap H locs → lv_has ls 1 [(0, .ref tp)] → W p l e (rmW 1 40 0 0) s m ([.ref tp] : List Value).toArray below meth c H locs 0 0 (MQ below (va_Qv (fun w => (∃ (ts2 : Int32), ∃ (ta2 : Int32), ∃ (tb2 : Int32), ∃ (tv2 : Int32), (0 ≤ ta2.toInt ∧ ta2.toInt ≤ tb2.toInt ∧ tb2.toInt ≤ tz.toInt) ∧ (ts2.toInt = 2 → 0 ≤ tv2.toInt ∧ tv2.toInt ≤ 999) ∧ (tok (tx f tz.toInt) (tS (tx f tz.toInt) 0) ts2.toInt ta2.toInt tb2.toInt tv2.toInt) ∧ w = [(tp, .inr (5, [.ref by_, .int tz, .int ts2, .int ta2, .int tb2, .int tv2])), (by_, .inl (cI, 400, .inl f))])) (wD D A) A) ([.ref tp] : List Value).toArray s 0 0 A) (F0 m 162 ls [])) : ∀ (mN : Nat) (b2 : Int32), (rng f 400 (0) (255)) → (a1.toInt < b2.toInt ∧ b2.toInt ≤ tz.toInt) → (s1.toInt = 2 → dgs f a1.toInt b2.toInt) → (ee (tx f tz.toInt) s1.toInt b2.toInt = ee (tx f tz.toInt) s1.toInt (a1.toInt + 1)) → ((400 - b2.toInt).toNat < mN) → ∀ (H : Heap) (locs : List Loc) (ls : Array Slot), va_P D vwCl [(tp, .inr (5, [.ref by_, .int tz, .int s1, .int a1, .int b2, .int tv])), (by_, .inl (cI, 400, .inl f))] H → va_D A [(tp, .inr (5, [.ref by_, .int tz, .int s1, .int a1, .int b2, .int tv])), (by_, .inl (cI, 400, .inl f))] → va_S A s.heap H locs → lv_has ls 1 [(0, .ref tp)] → W p l e (rmW 1 40 0 0) s m ([.ref tp] : List Value).toArray below meth c H locs 0 0 (MQ below (va_Qv (fun w => (∃ (ts2 : Int32), ∃ (ta2 : Int32), ∃ (tb2 : Int32), ∃ (tv2 : Int32), (0 ≤ ta2.toInt ∧ ta2.toInt ≤ tb2.toInt ∧ tb2.toInt ≤ tz.toInt) ∧ (ts2.toInt = 2 → 0 ≤ tv2.toInt ∧ tv2.toInt ≤ 999) ∧ (tok (tx f tz.toInt) (tS (tx f tz.toInt) 0) ts2.toInt ta2.toInt tb2.toInt tv2.toInt) ∧ w = [(tp, .inr (5, [.ref by_, .int tz, .int ts2, .int ta2, .int tb2, .int tv2])), (by_, .inl (cI, 400, .inl f))])) (wD D A) A) ([.ref tp] : List Value).toArray s 0 0 A) (F0 m 103 ls []) := by
  have S : CallFix p m c cX5_advance 1 s ([.ref tp] : List Value).toArray wsX5_advance RX5 := X.1
  have iX5 := jX5_advance_X5
  intro mN
  induction mN with
  | zero => intro b2 hrg_f hi hd he hm; exact absurd hm (Nat.not_lt_zero _)
  | succ mN ih =>
    intro b2 hrg_f hi hd he hm H locs ls hP hD hS hl
    refine lv_aload_n S.1 S.2.1 dX5_advance_103 rfl (lv_at hl 0 rfl) ?_
    refine b_get (v := .int b2) S iX5 hK hP 0 rfl rfl 4 (by decide) (by decide +kernel) rfl dX5_advance_104 ?_
    refine lv_aload_n S.1 S.2.1 dX5_advance_107 rfl (lv_at hl 0 rfl) ?_
    refine b_get (v := .int tz) S iX5 hK hP 0 rfl rfl 1 (by decide) (by decide +kernel) rfl dX5_advance_108 ?_
    refine lv_icmp_ge (tgt := 162) S.1 S.2.1 dX5_advance_111 (by decide) (fun c_201 => ?_) (fun c_201 => ?_)
    · rw [le2 (a := tz) (b := b2) (A := tz.toInt) (B := b2.toInt) rfl rfl] at c_201
      exact K b2 (by first | with_reducible assumption | assumption | omega | decide | (rw [show Int32.toInt 0 = 0 from rfl]; omega)) (by first | with_reducible assumption | (and_intros <;> first | with_reducible assumption | (intros; refine Int.le_antisymm ?_ ?_ <;> omega) | omega) | assumption | decide | (rw [show Int32.toInt 0 = 0 from rfl]; omega)) (by first | assumption | (intro hq; exact absurd hq (by first | omega | decide)) | (intro _; exact dgs_ext (hd (by assumption)) (by first | (refine Int.le_antisymm ?_ ?_ <;> omega) | omega) rfl (by first | (refine Int.le_antisymm ?_ ?_ <;> omega) | omega) (by assumption) (by assumption)) | (intro _; exact dgs_ext (hd (by first | (refine Int.le_antisymm ?_ ?_ <;> omega) | omega)) (by first | (refine Int.le_antisymm ?_ ?_ <;> omega) | omega) rfl (by first | (refine Int.le_antisymm ?_ ?_ <;> omega) | omega) (by assumption) (by assumption))) (by first | assumption | exact ee_go he (by assumption) (by first | (refine Int.le_antisymm ?_ ?_ <;> omega) | omega) (by first | (refine Int.le_antisymm ?_ ?_ <;> omega) | omega) (by first | (refine Int.le_antisymm ?_ ?_ <;> omega) | omega) (by first | (refine Int.le_antisymm ?_ ?_ <;> omega) | omega)) (by first | exact ee_outs (by first | (refine Int.le_antisymm ?_ ?_ <;> omega) | omega) | exact ee_st (by first | (refine Int.le_antisymm ?_ ?_ <;> omega) | omega) | exact ee_no (by assumption) (by first | (refine Int.le_antisymm ?_ ?_ <;> omega) | omega)) H _ ls hP hD hS (lv_sub hl [0] rfl)
    · rw [le2 (a := tz) (b := b2) (A := tz.toInt) (B := b2.toInt) rfl rfl] at c_201
      refine lv_aload_n S.1 S.2.1 dX5_advance_114 rfl (lv_at hl 0 rfl) ?_
      refine b_get (v := .int s1) S iX5 hK hP 0 rfl rfl 2 (by decide) (by decide +kernel) rfl dX5_advance_115 ?_
      refine lv_iconst (v := (1)) S.1 S.2.1 dX5_advance_118 (by decide) ?_
      refine lv_icmp_eq (tgt := 130) S.1 S.2.1 dX5_advance_119 (by decide) (fun c_202 => ?_) (fun c_202 => ?_)
      · rw [eq2 (a := s1) (b := 1) (A := s1.toInt) (B := 1) rfl rfl] at c_202
        refine lv_aload_n S.1 S.2.1 dX5_advance_130 rfl (lv_at hl 0 rfl) ?_
        refine b_get (v := .ref by_) S iX5 hK hP 0 rfl rfl 0 (by decide) (by decide +kernel) rfl dX5_advance_131 ?_
        refine lv_aload_n S.1 S.2.1 dX5_advance_134 rfl (lv_at hl 0 rfl) ?_
        refine b_get (v := .int b2) S iX5 hK hP 0 rfl rfl 4 (by decide) (by decide +kernel) rfl dX5_advance_135 ?_
        have hin_203 : vp_in b2 400 := (in_of (n := 400) (by  omega) (by  omega))
        refine va_iald S.1 S.2.1 hK.1 hP 1 0 rfl rfl hin_203 dX5_advance_138 ?_
        refine lv_topi (fun x_204 ex_204 => ?_)
        have tx_204 := rng_get (x := x_204) (show rng f 400 (0) (255) by assumption) hin_203 ex_204
        have qx_204 := tx_get (n := tz.toInt) (i := b2) (by first | (refine Int.le_antisymm ?_ ?_ <;> omega) | omega) (by first | (refine Int.le_antisymm ?_ ?_ <;> omega) | omega) ex_204
        refine b_ai (wr := [(tp, .inr (5, [.ref by_, .int tz, .int s1, .int a1, .int b2, .int tv])), (by_, .inl (cI, 400, .inl f))]) (b_runS (As := [.int x_204]) (s_X5_sortOf l D cI cZ cC cS sq H.size x_204) S gX5_advance_X5_sortOf rfl hdS_X5_sortOf ⟨Nat.le_of_ble_eq_true rfl, Nat.le_of_ble_eq_true rfl⟩ ⟨Nat.le_of_ble_eq_true rfl, Nat.le_of_ble_eq_true rfl⟩ hK hT hS hA hP hD [] rfl (by decide) rfl hl.1 rfl (Nat.le_of_ble_eq_true rfl) dX5_advance_139) hP hD hS hA [] [0, 1] rfl rfl (by decide) (by decide) (fun r_205 w_206 H locs hw_207 hP hD hS => ?_)
        rcases hw_207 with ⟨hf_208, rfl, rfl⟩ | ⟨hf_209, hf_210, rfl, rfl⟩ | ⟨hf_211, rfl, rfl⟩ | ⟨hf_212, rfl, rfl⟩
        · have hP : va_P D vwCl [(tp, .inr (5, [.ref by_, .int tz, .int s1, .int a1, .int b2, .int tv])), (by_, .inl (cI, 400, .inl f))] H := hP
          have hD : va_D A [(tp, .inr (5, [.ref by_, .int tz, .int s1, .int a1, .int b2, .int tv])), (by_, .inl (cI, 400, .inl f))] := hD
          refine lv_aload_n S.1 S.2.1 dX5_advance_142 rfl (lv_at hl 0 rfl) ?_
          refine b_get (v := .int s1) S iX5 hK hP 0 rfl rfl 2 (by decide) (by decide +kernel) rfl dX5_advance_143 ?_
          refine lv_icmp_ne (tgt := 162) S.1 S.2.1 dX5_advance_146 (by decide) (fun c_213 => ?_) (fun c_213 => ?_)
          · rw [eq2 (a := 1) (b := s1) (A := 1) (B := s1.toInt) rfl rfl] at c_213
            exact K b2 (by first | with_reducible assumption | assumption | omega | decide | (rw [show Int32.toInt 0 = 0 from rfl]; omega)) (by first | with_reducible assumption | (and_intros <;> first | with_reducible assumption | (intros; refine Int.le_antisymm ?_ ?_ <;> omega) | omega) | assumption | decide | (rw [show Int32.toInt 0 = 0 from rfl]; omega)) (by first | assumption | (intro hq; exact absurd hq (by first | omega | decide)) | (intro _; exact dgs_ext (hd (by assumption)) (by first | (refine Int.le_antisymm ?_ ?_ <;> omega) | omega) rfl (by first | (refine Int.le_antisymm ?_ ?_ <;> omega) | omega) (by assumption) (by assumption)) | (intro _; exact dgs_ext (hd (by first | (refine Int.le_antisymm ?_ ?_ <;> omega) | omega)) (by first | (refine Int.le_antisymm ?_ ?_ <;> omega) | omega) rfl (by first | (refine Int.le_antisymm ?_ ?_ <;> omega) | omega) (by assumption) (by assumption))) (by first | assumption | exact ee_go he (by assumption) (by first | (refine Int.le_antisymm ?_ ?_ <;> omega) | omega) (by first | (refine Int.le_antisymm ?_ ?_ <;> omega) | omega) (by first | (refine Int.le_antisymm ?_ ?_ <;> omega) | omega) (by first | (refine Int.le_antisymm ?_ ?_ <;> omega) | omega)) (by first | exact ee_outs (by first | (refine Int.le_antisymm ?_ ?_ <;> omega) | omega) | exact ee_st (by first | (refine Int.le_antisymm ?_ ?_ <;> omega) | omega) | exact ee_no (by assumption) (by first | (refine Int.le_antisymm ?_ ?_ <;> omega) | omega)) H _ ls hP hD hS (lv_sub hl [0] rfl)
          · rw [eq2 (a := 1) (b := s1) (A := 1) (B := s1.toInt) rfl rfl] at c_213
            refine lv_aload_n S.1 S.2.1 dX5_advance_149 rfl (lv_at hl 0 rfl) ?_
            refine lv_dup S.1 S.2.1 dX5_advance_150 rfl ?_
            refine b_get (v := .int b2) S iX5 hK hP 0 rfl rfl 4 (by decide) (by decide +kernel) rfl dX5_advance_151 ?_
            refine lv_iconst (v := (1)) S.1 S.2.1 dX5_advance_154 (by decide) ?_
            refine lv_iadd S.1 S.2.1 dX5_advance_155 ?_
            refine lv_topi (fun x_214 ex_214 => ?_)
            have tx_214 : x_214.toInt = b2.toInt + (1) := addI (A := b2.toInt) (B := 1) ex_214 rfl rfl (by  omega) (by  omega)
            refine b_put (v := .int x_214) S iX5 tyX5 tyX5_ok nmX5 hK hP hD hS 0 rfl rfl 4 (by decide) (by decide +kernel) rfl rfl rfl (Nat.le_of_ble_eq_true rfl) dX5_advance_156 (fun H locs hP hD hS => ?_)
            have hP : va_P D vwCl [(tp, .inr (5, [.ref by_, .int tz, .int s1, .int a1, .int x_214, .int tv])), (by_, .inl (cI, 400, .inl f))] H := hP
            have hD : va_D A [(tp, .inr (5, [.ref by_, .int tz, .int s1, .int a1, .int x_214, .int tv])), (by_, .inl (cI, 400, .inl f))] := hD
            refine lv_goto (tgt := 103) S.1 S.2.1 dX5_advance_159 (by decide) ?_
            exact ih x_214 (by first | with_reducible assumption | assumption | omega | decide | (rw [show Int32.toInt 0 = 0 from rfl]; omega)) (by first | with_reducible assumption | (and_intros <;> first | with_reducible assumption | (intros; refine Int.le_antisymm ?_ ?_ <;> omega) | omega) | assumption | decide | (rw [show Int32.toInt 0 = 0 from rfl]; omega)) (by first | assumption | (intro hq; exact absurd hq (by first | omega | decide)) | (intro _; exact dgs_ext (hd (by assumption)) (by first | (refine Int.le_antisymm ?_ ?_ <;> omega) | omega) rfl (by first | (refine Int.le_antisymm ?_ ?_ <;> omega) | omega) (by assumption) (by assumption)) | (intro _; exact dgs_ext (hd (by first | (refine Int.le_antisymm ?_ ?_ <;> omega) | omega)) (by first | (refine Int.le_antisymm ?_ ?_ <;> omega) | omega) rfl (by first | (refine Int.le_antisymm ?_ ?_ <;> omega) | omega) (by assumption) (by assumption))) (by first | assumption | exact ee_go he (by assumption) (by first | (refine Int.le_antisymm ?_ ?_ <;> omega) | omega) (by first | (refine Int.le_antisymm ?_ ?_ <;> omega) | omega) (by first | (refine Int.le_antisymm ?_ ?_ <;> omega) | omega) (by first | (refine Int.le_antisymm ?_ ?_ <;> omega) | omega)) (by first | (refine Int.le_antisymm ?_ ?_ <;> omega) | omega) H _ ls hP hD hS (lv_sub hl [0] rfl)
        · have hP : va_P D vwCl [(tp, .inr (5, [.ref by_, .int tz, .int s1, .int a1, .int b2, .int tv])), (by_, .inl (cI, 400, .inl f))] H := hP
          have hD : va_D A [(tp, .inr (5, [.ref by_, .int tz, .int s1, .int a1, .int b2, .int tv])), (by_, .inl (cI, 400, .inl f))] := hD
          refine lv_aload_n S.1 S.2.1 dX5_advance_142 rfl (lv_at hl 0 rfl) ?_
          refine b_get (v := .int s1) S iX5 hK hP 0 rfl rfl 2 (by decide) (by decide +kernel) rfl dX5_advance_143 ?_
          refine lv_icmp_ne (tgt := 162) S.1 S.2.1 dX5_advance_146 (by decide) (fun c_215 => ?_) (fun c_215 => ?_)
          · rw [eq2 (a := 2) (b := s1) (A := 2) (B := s1.toInt) rfl rfl] at c_215
            exact K b2 (by first | with_reducible assumption | assumption | omega | decide | (rw [show Int32.toInt 0 = 0 from rfl]; omega)) (by first | with_reducible assumption | (and_intros <;> first | with_reducible assumption | (intros; refine Int.le_antisymm ?_ ?_ <;> omega) | omega) | assumption | decide | (rw [show Int32.toInt 0 = 0 from rfl]; omega)) (by first | assumption | (intro hq; exact absurd hq (by first | omega | decide)) | (intro _; exact dgs_ext (hd (by assumption)) (by first | (refine Int.le_antisymm ?_ ?_ <;> omega) | omega) rfl (by first | (refine Int.le_antisymm ?_ ?_ <;> omega) | omega) (by assumption) (by assumption)) | (intro _; exact dgs_ext (hd (by first | (refine Int.le_antisymm ?_ ?_ <;> omega) | omega)) (by first | (refine Int.le_antisymm ?_ ?_ <;> omega) | omega) rfl (by first | (refine Int.le_antisymm ?_ ?_ <;> omega) | omega) (by assumption) (by assumption))) (by first | assumption | exact ee_go he (by assumption) (by first | (refine Int.le_antisymm ?_ ?_ <;> omega) | omega) (by first | (refine Int.le_antisymm ?_ ?_ <;> omega) | omega) (by first | (refine Int.le_antisymm ?_ ?_ <;> omega) | omega) (by first | (refine Int.le_antisymm ?_ ?_ <;> omega) | omega)) (by first | exact ee_outs (by first | (refine Int.le_antisymm ?_ ?_ <;> omega) | omega) | exact ee_st (by first | (refine Int.le_antisymm ?_ ?_ <;> omega) | omega) | exact ee_no (by assumption) (by first | (refine Int.le_antisymm ?_ ?_ <;> omega) | omega)) H _ ls hP hD hS (lv_sub hl [0] rfl)
          · rw [eq2 (a := 2) (b := s1) (A := 2) (B := s1.toInt) rfl rfl] at c_215
            refine lv_aload_n S.1 S.2.1 dX5_advance_149 rfl (lv_at hl 0 rfl) ?_
            refine lv_dup S.1 S.2.1 dX5_advance_150 rfl ?_
            refine b_get (v := .int b2) S iX5 hK hP 0 rfl rfl 4 (by decide) (by decide +kernel) rfl dX5_advance_151 ?_
            refine lv_iconst (v := (1)) S.1 S.2.1 dX5_advance_154 (by decide) ?_
            refine lv_iadd S.1 S.2.1 dX5_advance_155 ?_
            refine lv_topi (fun x_216 ex_216 => ?_)
            have tx_216 : x_216.toInt = b2.toInt + (1) := addI (A := b2.toInt) (B := 1) ex_216 rfl rfl (by  omega) (by  omega)
            refine b_put (v := .int x_216) S iX5 tyX5 tyX5_ok nmX5 hK hP hD hS 0 rfl rfl 4 (by decide) (by decide +kernel) rfl rfl rfl (Nat.le_of_ble_eq_true rfl) dX5_advance_156 (fun H locs hP hD hS => ?_)
            have hP : va_P D vwCl [(tp, .inr (5, [.ref by_, .int tz, .int s1, .int a1, .int x_216, .int tv])), (by_, .inl (cI, 400, .inl f))] H := hP
            have hD : va_D A [(tp, .inr (5, [.ref by_, .int tz, .int s1, .int a1, .int x_216, .int tv])), (by_, .inl (cI, 400, .inl f))] := hD
            refine lv_goto (tgt := 103) S.1 S.2.1 dX5_advance_159 (by decide) ?_
            exact ih x_216 (by first | with_reducible assumption | assumption | omega | decide | (rw [show Int32.toInt 0 = 0 from rfl]; omega)) (by first | with_reducible assumption | (and_intros <;> first | with_reducible assumption | (intros; refine Int.le_antisymm ?_ ?_ <;> omega) | omega) | assumption | decide | (rw [show Int32.toInt 0 = 0 from rfl]; omega)) (by first | assumption | (intro hq; exact absurd hq (by first | omega | decide)) | (intro _; exact dgs_ext (hd (by assumption)) (by first | (refine Int.le_antisymm ?_ ?_ <;> omega) | omega) rfl (by first | (refine Int.le_antisymm ?_ ?_ <;> omega) | omega) (by assumption) (by assumption)) | (intro _; exact dgs_ext (hd (by first | (refine Int.le_antisymm ?_ ?_ <;> omega) | omega)) (by first | (refine Int.le_antisymm ?_ ?_ <;> omega) | omega) rfl (by first | (refine Int.le_antisymm ?_ ?_ <;> omega) | omega) (by assumption) (by assumption))) (by first | assumption | exact ee_go he (by assumption) (by first | (refine Int.le_antisymm ?_ ?_ <;> omega) | omega) (by first | (refine Int.le_antisymm ?_ ?_ <;> omega) | omega) (by first | (refine Int.le_antisymm ?_ ?_ <;> omega) | omega) (by first | (refine Int.le_antisymm ?_ ?_ <;> omega) | omega)) (by first | (refine Int.le_antisymm ?_ ?_ <;> omega) | omega) H _ ls hP hD hS (lv_sub hl [0] rfl)
        · have hP : va_P D vwCl [(tp, .inr (5, [.ref by_, .int tz, .int s1, .int a1, .int b2, .int tv])), (by_, .inl (cI, 400, .inl f))] H := hP
          have hD : va_D A [(tp, .inr (5, [.ref by_, .int tz, .int s1, .int a1, .int b2, .int tv])), (by_, .inl (cI, 400, .inl f))] := hD
          refine lv_aload_n S.1 S.2.1 dX5_advance_142 rfl (lv_at hl 0 rfl) ?_
          refine b_get (v := .int s1) S iX5 hK hP 0 rfl rfl 2 (by decide) (by decide +kernel) rfl dX5_advance_143 ?_
          refine lv_icmp_ne (tgt := 162) S.1 S.2.1 dX5_advance_146 (by decide) (fun c_217 => ?_) (fun c_217 => ?_)
          · rw [eq2 (a := 3) (b := s1) (A := 3) (B := s1.toInt) rfl rfl] at c_217
            exact K b2 (by first | with_reducible assumption | assumption | omega | decide | (rw [show Int32.toInt 0 = 0 from rfl]; omega)) (by first | with_reducible assumption | (and_intros <;> first | with_reducible assumption | (intros; refine Int.le_antisymm ?_ ?_ <;> omega) | omega) | assumption | decide | (rw [show Int32.toInt 0 = 0 from rfl]; omega)) (by first | assumption | (intro hq; exact absurd hq (by first | omega | decide)) | (intro _; exact dgs_ext (hd (by assumption)) (by first | (refine Int.le_antisymm ?_ ?_ <;> omega) | omega) rfl (by first | (refine Int.le_antisymm ?_ ?_ <;> omega) | omega) (by assumption) (by assumption)) | (intro _; exact dgs_ext (hd (by first | (refine Int.le_antisymm ?_ ?_ <;> omega) | omega)) (by first | (refine Int.le_antisymm ?_ ?_ <;> omega) | omega) rfl (by first | (refine Int.le_antisymm ?_ ?_ <;> omega) | omega) (by assumption) (by assumption))) (by first | assumption | exact ee_go he (by assumption) (by first | (refine Int.le_antisymm ?_ ?_ <;> omega) | omega) (by first | (refine Int.le_antisymm ?_ ?_ <;> omega) | omega) (by first | (refine Int.le_antisymm ?_ ?_ <;> omega) | omega) (by first | (refine Int.le_antisymm ?_ ?_ <;> omega) | omega)) (by first | exact ee_outs (by first | (refine Int.le_antisymm ?_ ?_ <;> omega) | omega) | exact ee_st (by first | (refine Int.le_antisymm ?_ ?_ <;> omega) | omega) | exact ee_no (by assumption) (by first | (refine Int.le_antisymm ?_ ?_ <;> omega) | omega)) H _ ls hP hD hS (lv_sub hl [0] rfl)
          · rw [eq2 (a := 3) (b := s1) (A := 3) (B := s1.toInt) rfl rfl] at c_217
            refine lv_aload_n S.1 S.2.1 dX5_advance_149 rfl (lv_at hl 0 rfl) ?_
            refine lv_dup S.1 S.2.1 dX5_advance_150 rfl ?_
            refine b_get (v := .int b2) S iX5 hK hP 0 rfl rfl 4 (by decide) (by decide +kernel) rfl dX5_advance_151 ?_
            refine lv_iconst (v := (1)) S.1 S.2.1 dX5_advance_154 (by decide) ?_
            refine lv_iadd S.1 S.2.1 dX5_advance_155 ?_
            refine lv_topi (fun x_218 ex_218 => ?_)
            have tx_218 : x_218.toInt = b2.toInt + (1) := addI (A := b2.toInt) (B := 1) ex_218 rfl rfl (by  omega) (by  omega)
            refine b_put (v := .int x_218) S iX5 tyX5 tyX5_ok nmX5 hK hP hD hS 0 rfl rfl 4 (by decide) (by decide +kernel) rfl rfl rfl (Nat.le_of_ble_eq_true rfl) dX5_advance_156 (fun H locs hP hD hS => ?_)
            have hP : va_P D vwCl [(tp, .inr (5, [.ref by_, .int tz, .int s1, .int a1, .int x_218, .int tv])), (by_, .inl (cI, 400, .inl f))] H := hP
            have hD : va_D A [(tp, .inr (5, [.ref by_, .int tz, .int s1, .int a1, .int x_218, .int tv])), (by_, .inl (cI, 400, .inl f))] := hD
            refine lv_goto (tgt := 103) S.1 S.2.1 dX5_advance_159 (by decide) ?_
            exact ih x_218 (by first | with_reducible assumption | assumption | omega | decide | (rw [show Int32.toInt 0 = 0 from rfl]; omega)) (by first | with_reducible assumption | (and_intros <;> first | with_reducible assumption | (intros; refine Int.le_antisymm ?_ ?_ <;> omega) | omega) | assumption | decide | (rw [show Int32.toInt 0 = 0 from rfl]; omega)) (by first | assumption | (intro hq; exact absurd hq (by first | omega | decide)) | (intro _; exact dgs_ext (hd (by assumption)) (by first | (refine Int.le_antisymm ?_ ?_ <;> omega) | omega) rfl (by first | (refine Int.le_antisymm ?_ ?_ <;> omega) | omega) (by assumption) (by assumption)) | (intro _; exact dgs_ext (hd (by first | (refine Int.le_antisymm ?_ ?_ <;> omega) | omega)) (by first | (refine Int.le_antisymm ?_ ?_ <;> omega) | omega) rfl (by first | (refine Int.le_antisymm ?_ ?_ <;> omega) | omega) (by assumption) (by assumption))) (by first | assumption | exact ee_go he (by assumption) (by first | (refine Int.le_antisymm ?_ ?_ <;> omega) | omega) (by first | (refine Int.le_antisymm ?_ ?_ <;> omega) | omega) (by first | (refine Int.le_antisymm ?_ ?_ <;> omega) | omega) (by first | (refine Int.le_antisymm ?_ ?_ <;> omega) | omega)) (by first | (refine Int.le_antisymm ?_ ?_ <;> omega) | omega) H _ ls hP hD hS (lv_sub hl [0] rfl)
        · have hP : va_P D vwCl [(tp, .inr (5, [.ref by_, .int tz, .int s1, .int a1, .int b2, .int tv])), (by_, .inl (cI, 400, .inl f))] H := hP
          have hD : va_D A [(tp, .inr (5, [.ref by_, .int tz, .int s1, .int a1, .int b2, .int tv])), (by_, .inl (cI, 400, .inl f))] := hD
          refine lv_aload_n S.1 S.2.1 dX5_advance_142 rfl (lv_at hl 0 rfl) ?_
          refine b_get (v := .int s1) S iX5 hK hP 0 rfl rfl 2 (by decide) (by decide +kernel) rfl dX5_advance_143 ?_
          refine lv_icmp_ne (tgt := 162) S.1 S.2.1 dX5_advance_146 (by decide) (fun c_219 => ?_) (fun c_219 => ?_)
          · rw [eq2 (a := 4) (b := s1) (A := 4) (B := s1.toInt) rfl rfl] at c_219
            exact K b2 (by first | with_reducible assumption | assumption | omega | decide | (rw [show Int32.toInt 0 = 0 from rfl]; omega)) (by first | with_reducible assumption | (and_intros <;> first | with_reducible assumption | (intros; refine Int.le_antisymm ?_ ?_ <;> omega) | omega) | assumption | decide | (rw [show Int32.toInt 0 = 0 from rfl]; omega)) (by first | assumption | (intro hq; exact absurd hq (by first | omega | decide)) | (intro _; exact dgs_ext (hd (by assumption)) (by first | (refine Int.le_antisymm ?_ ?_ <;> omega) | omega) rfl (by first | (refine Int.le_antisymm ?_ ?_ <;> omega) | omega) (by assumption) (by assumption)) | (intro _; exact dgs_ext (hd (by first | (refine Int.le_antisymm ?_ ?_ <;> omega) | omega)) (by first | (refine Int.le_antisymm ?_ ?_ <;> omega) | omega) rfl (by first | (refine Int.le_antisymm ?_ ?_ <;> omega) | omega) (by assumption) (by assumption))) (by first | assumption | exact ee_go he (by assumption) (by first | (refine Int.le_antisymm ?_ ?_ <;> omega) | omega) (by first | (refine Int.le_antisymm ?_ ?_ <;> omega) | omega) (by first | (refine Int.le_antisymm ?_ ?_ <;> omega) | omega) (by first | (refine Int.le_antisymm ?_ ?_ <;> omega) | omega)) (by first | exact ee_outs (by first | (refine Int.le_antisymm ?_ ?_ <;> omega) | omega) | exact ee_st (by first | (refine Int.le_antisymm ?_ ?_ <;> omega) | omega) | exact ee_no (by assumption) (by first | (refine Int.le_antisymm ?_ ?_ <;> omega) | omega)) H _ ls hP hD hS (lv_sub hl [0] rfl)
          · rw [eq2 (a := 4) (b := s1) (A := 4) (B := s1.toInt) rfl rfl] at c_219
            refine lv_aload_n S.1 S.2.1 dX5_advance_149 rfl (lv_at hl 0 rfl) ?_
            refine lv_dup S.1 S.2.1 dX5_advance_150 rfl ?_
            refine b_get (v := .int b2) S iX5 hK hP 0 rfl rfl 4 (by decide) (by decide +kernel) rfl dX5_advance_151 ?_
            refine lv_iconst (v := (1)) S.1 S.2.1 dX5_advance_154 (by decide) ?_
            refine lv_iadd S.1 S.2.1 dX5_advance_155 ?_
            refine lv_topi (fun x_220 ex_220 => ?_)
            have tx_220 : x_220.toInt = b2.toInt + (1) := addI (A := b2.toInt) (B := 1) ex_220 rfl rfl (by  omega) (by  omega)
            refine b_put (v := .int x_220) S iX5 tyX5 tyX5_ok nmX5 hK hP hD hS 0 rfl rfl 4 (by decide) (by decide +kernel) rfl rfl rfl (Nat.le_of_ble_eq_true rfl) dX5_advance_156 (fun H locs hP hD hS => ?_)
            have hP : va_P D vwCl [(tp, .inr (5, [.ref by_, .int tz, .int s1, .int a1, .int x_220, .int tv])), (by_, .inl (cI, 400, .inl f))] H := hP
            have hD : va_D A [(tp, .inr (5, [.ref by_, .int tz, .int s1, .int a1, .int x_220, .int tv])), (by_, .inl (cI, 400, .inl f))] := hD
            refine lv_goto (tgt := 103) S.1 S.2.1 dX5_advance_159 (by decide) ?_
            exact ih x_220 (by first | with_reducible assumption | assumption | omega | decide | (rw [show Int32.toInt 0 = 0 from rfl]; omega)) (by first | with_reducible assumption | (and_intros <;> first | with_reducible assumption | (intros; refine Int.le_antisymm ?_ ?_ <;> omega) | omega) | assumption | decide | (rw [show Int32.toInt 0 = 0 from rfl]; omega)) (by first | assumption | (intro hq; exact absurd hq (by first | omega | decide)) | (intro _; exact dgs_ext (hd (by assumption)) (by first | (refine Int.le_antisymm ?_ ?_ <;> omega) | omega) rfl (by first | (refine Int.le_antisymm ?_ ?_ <;> omega) | omega) (by assumption) (by assumption)) | (intro _; exact dgs_ext (hd (by first | (refine Int.le_antisymm ?_ ?_ <;> omega) | omega)) (by first | (refine Int.le_antisymm ?_ ?_ <;> omega) | omega) rfl (by first | (refine Int.le_antisymm ?_ ?_ <;> omega) | omega) (by assumption) (by assumption))) (by first | assumption | exact ee_go he (by assumption) (by first | (refine Int.le_antisymm ?_ ?_ <;> omega) | omega) (by first | (refine Int.le_antisymm ?_ ?_ <;> omega) | omega) (by first | (refine Int.le_antisymm ?_ ?_ <;> omega) | omega) (by first | (refine Int.le_antisymm ?_ ?_ <;> omega) | omega)) (by first | (refine Int.le_antisymm ?_ ?_ <;> omega) | omega) H _ ls hP hD hS (lv_sub hl [0] rfl)
      · rw [eq2 (a := s1) (b := 1) (A := s1.toInt) (B := 1) rfl rfl] at c_202
        refine lv_aload_n S.1 S.2.1 dX5_advance_122 rfl (lv_at hl 0 rfl) ?_
        refine b_get (v := .int s1) S iX5 hK hP 0 rfl rfl 2 (by decide) (by decide +kernel) rfl dX5_advance_123 ?_
        refine lv_iconst (v := (2)) S.1 S.2.1 dX5_advance_126 (by decide) ?_
        refine lv_icmp_ne (tgt := 162) S.1 S.2.1 dX5_advance_127 (by decide) (fun c_221 => ?_) (fun c_221 => ?_)
        · rw [eq2 (a := s1) (b := 2) (A := s1.toInt) (B := 2) rfl rfl] at c_221
          exact K b2 (by first | with_reducible assumption | assumption | omega | decide | (rw [show Int32.toInt 0 = 0 from rfl]; omega)) (by first | with_reducible assumption | (and_intros <;> first | with_reducible assumption | (intros; refine Int.le_antisymm ?_ ?_ <;> omega) | omega) | assumption | decide | (rw [show Int32.toInt 0 = 0 from rfl]; omega)) (by first | assumption | (intro hq; exact absurd hq (by first | omega | decide)) | (intro _; exact dgs_ext (hd (by assumption)) (by first | (refine Int.le_antisymm ?_ ?_ <;> omega) | omega) rfl (by first | (refine Int.le_antisymm ?_ ?_ <;> omega) | omega) (by assumption) (by assumption)) | (intro _; exact dgs_ext (hd (by first | (refine Int.le_antisymm ?_ ?_ <;> omega) | omega)) (by first | (refine Int.le_antisymm ?_ ?_ <;> omega) | omega) rfl (by first | (refine Int.le_antisymm ?_ ?_ <;> omega) | omega) (by assumption) (by assumption))) (by first | assumption | exact ee_go he (by assumption) (by first | (refine Int.le_antisymm ?_ ?_ <;> omega) | omega) (by first | (refine Int.le_antisymm ?_ ?_ <;> omega) | omega) (by first | (refine Int.le_antisymm ?_ ?_ <;> omega) | omega) (by first | (refine Int.le_antisymm ?_ ?_ <;> omega) | omega)) (by first | exact ee_outs (by first | (refine Int.le_antisymm ?_ ?_ <;> omega) | omega) | exact ee_st (by first | (refine Int.le_antisymm ?_ ?_ <;> omega) | omega) | exact ee_no (by assumption) (by first | (refine Int.le_antisymm ?_ ?_ <;> omega) | omega)) H _ ls hP hD hS (lv_sub hl [0] rfl)
        · rw [eq2 (a := s1) (b := 2) (A := s1.toInt) (B := 2) rfl rfl] at c_221
          refine lv_aload_n S.1 S.2.1 dX5_advance_130 rfl (lv_at hl 0 rfl) ?_
          refine b_get (v := .ref by_) S iX5 hK hP 0 rfl rfl 0 (by decide) (by decide +kernel) rfl dX5_advance_131 ?_
          refine lv_aload_n S.1 S.2.1 dX5_advance_134 rfl (lv_at hl 0 rfl) ?_
          refine b_get (v := .int b2) S iX5 hK hP 0 rfl rfl 4 (by decide) (by decide +kernel) rfl dX5_advance_135 ?_
          have hin_222 : vp_in b2 400 := (in_of (n := 400) (by  omega) (by  omega))
          refine va_iald S.1 S.2.1 hK.1 hP 1 0 rfl rfl hin_222 dX5_advance_138 ?_
          refine lv_topi (fun x_223 ex_223 => ?_)
          have tx_223 := rng_get (x := x_223) (show rng f 400 (0) (255) by assumption) hin_222 ex_223
          have qx_223 := tx_get (n := tz.toInt) (i := b2) (by first | (refine Int.le_antisymm ?_ ?_ <;> omega) | omega) (by first | (refine Int.le_antisymm ?_ ?_ <;> omega) | omega) ex_223
          refine b_ai (wr := [(tp, .inr (5, [.ref by_, .int tz, .int s1, .int a1, .int b2, .int tv])), (by_, .inl (cI, 400, .inl f))]) (b_runS (As := [.int x_223]) (s_X5_sortOf l D cI cZ cC cS sq H.size x_223) S gX5_advance_X5_sortOf rfl hdS_X5_sortOf ⟨Nat.le_of_ble_eq_true rfl, Nat.le_of_ble_eq_true rfl⟩ ⟨Nat.le_of_ble_eq_true rfl, Nat.le_of_ble_eq_true rfl⟩ hK hT hS hA hP hD [] rfl (by decide) rfl hl.1 rfl (Nat.le_of_ble_eq_true rfl) dX5_advance_139) hP hD hS hA [] [0, 1] rfl rfl (by decide) (by decide) (fun r_224 w_225 H locs hw_226 hP hD hS => ?_)
          rcases hw_226 with ⟨hf_227, rfl, rfl⟩ | ⟨hf_228, hf_229, rfl, rfl⟩ | ⟨hf_230, rfl, rfl⟩ | ⟨hf_231, rfl, rfl⟩
          · have hP : va_P D vwCl [(tp, .inr (5, [.ref by_, .int tz, .int s1, .int a1, .int b2, .int tv])), (by_, .inl (cI, 400, .inl f))] H := hP
            have hD : va_D A [(tp, .inr (5, [.ref by_, .int tz, .int s1, .int a1, .int b2, .int tv])), (by_, .inl (cI, 400, .inl f))] := hD
            refine lv_aload_n S.1 S.2.1 dX5_advance_142 rfl (lv_at hl 0 rfl) ?_
            refine b_get (v := .int s1) S iX5 hK hP 0 rfl rfl 2 (by decide) (by decide +kernel) rfl dX5_advance_143 ?_
            refine lv_icmp_ne (tgt := 162) S.1 S.2.1 dX5_advance_146 (by decide) (fun c_232 => ?_) (fun c_232 => ?_)
            · rw [eq2 (a := 1) (b := s1) (A := 1) (B := s1.toInt) rfl rfl] at c_232
              exact K b2 (by first | with_reducible assumption | assumption | omega | decide | (rw [show Int32.toInt 0 = 0 from rfl]; omega)) (by first | with_reducible assumption | (and_intros <;> first | with_reducible assumption | (intros; refine Int.le_antisymm ?_ ?_ <;> omega) | omega) | assumption | decide | (rw [show Int32.toInt 0 = 0 from rfl]; omega)) (by first | assumption | (intro hq; exact absurd hq (by first | omega | decide)) | (intro _; exact dgs_ext (hd (by assumption)) (by first | (refine Int.le_antisymm ?_ ?_ <;> omega) | omega) rfl (by first | (refine Int.le_antisymm ?_ ?_ <;> omega) | omega) (by assumption) (by assumption)) | (intro _; exact dgs_ext (hd (by first | (refine Int.le_antisymm ?_ ?_ <;> omega) | omega)) (by first | (refine Int.le_antisymm ?_ ?_ <;> omega) | omega) rfl (by first | (refine Int.le_antisymm ?_ ?_ <;> omega) | omega) (by assumption) (by assumption))) (by first | assumption | exact ee_go he (by assumption) (by first | (refine Int.le_antisymm ?_ ?_ <;> omega) | omega) (by first | (refine Int.le_antisymm ?_ ?_ <;> omega) | omega) (by first | (refine Int.le_antisymm ?_ ?_ <;> omega) | omega) (by first | (refine Int.le_antisymm ?_ ?_ <;> omega) | omega)) (by first | exact ee_outs (by first | (refine Int.le_antisymm ?_ ?_ <;> omega) | omega) | exact ee_st (by first | (refine Int.le_antisymm ?_ ?_ <;> omega) | omega) | exact ee_no (by assumption) (by first | (refine Int.le_antisymm ?_ ?_ <;> omega) | omega)) H _ ls hP hD hS (lv_sub hl [0] rfl)
            · rw [eq2 (a := 1) (b := s1) (A := 1) (B := s1.toInt) rfl rfl] at c_232
              refine lv_aload_n S.1 S.2.1 dX5_advance_149 rfl (lv_at hl 0 rfl) ?_
              refine lv_dup S.1 S.2.1 dX5_advance_150 rfl ?_
              refine b_get (v := .int b2) S iX5 hK hP 0 rfl rfl 4 (by decide) (by decide +kernel) rfl dX5_advance_151 ?_
              refine lv_iconst (v := (1)) S.1 S.2.1 dX5_advance_154 (by decide) ?_
              refine lv_iadd S.1 S.2.1 dX5_advance_155 ?_
              refine lv_topi (fun x_233 ex_233 => ?_)
              have tx_233 : x_233.toInt = b2.toInt + (1) := addI (A := b2.toInt) (B := 1) ex_233 rfl rfl (by  omega) (by  omega)
              refine b_put (v := .int x_233) S iX5 tyX5 tyX5_ok nmX5 hK hP hD hS 0 rfl rfl 4 (by decide) (by decide +kernel) rfl rfl rfl (Nat.le_of_ble_eq_true rfl) dX5_advance_156 (fun H locs hP hD hS => ?_)
              have hP : va_P D vwCl [(tp, .inr (5, [.ref by_, .int tz, .int s1, .int a1, .int x_233, .int tv])), (by_, .inl (cI, 400, .inl f))] H := hP
              have hD : va_D A [(tp, .inr (5, [.ref by_, .int tz, .int s1, .int a1, .int x_233, .int tv])), (by_, .inl (cI, 400, .inl f))] := hD
              refine lv_goto (tgt := 103) S.1 S.2.1 dX5_advance_159 (by decide) ?_
              exact ih x_233 (by first | with_reducible assumption | assumption | omega | decide | (rw [show Int32.toInt 0 = 0 from rfl]; omega)) (by first | with_reducible assumption | (and_intros <;> first | with_reducible assumption | (intros; refine Int.le_antisymm ?_ ?_ <;> omega) | omega) | assumption | decide | (rw [show Int32.toInt 0 = 0 from rfl]; omega)) (by first | assumption | (intro hq; exact absurd hq (by first | omega | decide)) | (intro _; exact dgs_ext (hd (by assumption)) (by first | (refine Int.le_antisymm ?_ ?_ <;> omega) | omega) rfl (by first | (refine Int.le_antisymm ?_ ?_ <;> omega) | omega) (by assumption) (by assumption)) | (intro _; exact dgs_ext (hd (by first | (refine Int.le_antisymm ?_ ?_ <;> omega) | omega)) (by first | (refine Int.le_antisymm ?_ ?_ <;> omega) | omega) rfl (by first | (refine Int.le_antisymm ?_ ?_ <;> omega) | omega) (by assumption) (by assumption))) (by first | assumption | exact ee_go he (by assumption) (by first | (refine Int.le_antisymm ?_ ?_ <;> omega) | omega) (by first | (refine Int.le_antisymm ?_ ?_ <;> omega) | omega) (by first | (refine Int.le_antisymm ?_ ?_ <;> omega) | omega) (by first | (refine Int.le_antisymm ?_ ?_ <;> omega) | omega)) (by first | (refine Int.le_antisymm ?_ ?_ <;> omega) | omega) H _ ls hP hD hS (lv_sub hl [0] rfl)
          · have hP : va_P D vwCl [(tp, .inr (5, [.ref by_, .int tz, .int s1, .int a1, .int b2, .int tv])), (by_, .inl (cI, 400, .inl f))] H := hP
            have hD : va_D A [(tp, .inr (5, [.ref by_, .int tz, .int s1, .int a1, .int b2, .int tv])), (by_, .inl (cI, 400, .inl f))] := hD
            refine lv_aload_n S.1 S.2.1 dX5_advance_142 rfl (lv_at hl 0 rfl) ?_
            refine b_get (v := .int s1) S iX5 hK hP 0 rfl rfl 2 (by decide) (by decide +kernel) rfl dX5_advance_143 ?_
            refine lv_icmp_ne (tgt := 162) S.1 S.2.1 dX5_advance_146 (by decide) (fun c_234 => ?_) (fun c_234 => ?_)
            · rw [eq2 (a := 2) (b := s1) (A := 2) (B := s1.toInt) rfl rfl] at c_234
              exact K b2 (by first | with_reducible assumption | assumption | omega | decide | (rw [show Int32.toInt 0 = 0 from rfl]; omega)) (by first | with_reducible assumption | (and_intros <;> first | with_reducible assumption | (intros; refine Int.le_antisymm ?_ ?_ <;> omega) | omega) | assumption | decide | (rw [show Int32.toInt 0 = 0 from rfl]; omega)) (by first | assumption | (intro hq; exact absurd hq (by first | omega | decide)) | (intro _; exact dgs_ext (hd (by assumption)) (by first | (refine Int.le_antisymm ?_ ?_ <;> omega) | omega) rfl (by first | (refine Int.le_antisymm ?_ ?_ <;> omega) | omega) (by assumption) (by assumption)) | (intro _; exact dgs_ext (hd (by first | (refine Int.le_antisymm ?_ ?_ <;> omega) | omega)) (by first | (refine Int.le_antisymm ?_ ?_ <;> omega) | omega) rfl (by first | (refine Int.le_antisymm ?_ ?_ <;> omega) | omega) (by assumption) (by assumption))) (by first | assumption | exact ee_go he (by assumption) (by first | (refine Int.le_antisymm ?_ ?_ <;> omega) | omega) (by first | (refine Int.le_antisymm ?_ ?_ <;> omega) | omega) (by first | (refine Int.le_antisymm ?_ ?_ <;> omega) | omega) (by first | (refine Int.le_antisymm ?_ ?_ <;> omega) | omega)) (by first | exact ee_outs (by first | (refine Int.le_antisymm ?_ ?_ <;> omega) | omega) | exact ee_st (by first | (refine Int.le_antisymm ?_ ?_ <;> omega) | omega) | exact ee_no (by assumption) (by first | (refine Int.le_antisymm ?_ ?_ <;> omega) | omega)) H _ ls hP hD hS (lv_sub hl [0] rfl)
            · rw [eq2 (a := 2) (b := s1) (A := 2) (B := s1.toInt) rfl rfl] at c_234
              refine lv_aload_n S.1 S.2.1 dX5_advance_149 rfl (lv_at hl 0 rfl) ?_
              refine lv_dup S.1 S.2.1 dX5_advance_150 rfl ?_
              refine b_get (v := .int b2) S iX5 hK hP 0 rfl rfl 4 (by decide) (by decide +kernel) rfl dX5_advance_151 ?_
              refine lv_iconst (v := (1)) S.1 S.2.1 dX5_advance_154 (by decide) ?_
              refine lv_iadd S.1 S.2.1 dX5_advance_155 ?_
              refine lv_topi (fun x_235 ex_235 => ?_)
              have tx_235 : x_235.toInt = b2.toInt + (1) := addI (A := b2.toInt) (B := 1) ex_235 rfl rfl (by  omega) (by  omega)
              refine b_put (v := .int x_235) S iX5 tyX5 tyX5_ok nmX5 hK hP hD hS 0 rfl rfl 4 (by decide) (by decide +kernel) rfl rfl rfl (Nat.le_of_ble_eq_true rfl) dX5_advance_156 (fun H locs hP hD hS => ?_)
              have hP : va_P D vwCl [(tp, .inr (5, [.ref by_, .int tz, .int s1, .int a1, .int x_235, .int tv])), (by_, .inl (cI, 400, .inl f))] H := hP
              have hD : va_D A [(tp, .inr (5, [.ref by_, .int tz, .int s1, .int a1, .int x_235, .int tv])), (by_, .inl (cI, 400, .inl f))] := hD
              refine lv_goto (tgt := 103) S.1 S.2.1 dX5_advance_159 (by decide) ?_
              exact ih x_235 (by first | with_reducible assumption | assumption | omega | decide | (rw [show Int32.toInt 0 = 0 from rfl]; omega)) (by first | with_reducible assumption | (and_intros <;> first | with_reducible assumption | (intros; refine Int.le_antisymm ?_ ?_ <;> omega) | omega) | assumption | decide | (rw [show Int32.toInt 0 = 0 from rfl]; omega)) (by first | assumption | (intro hq; exact absurd hq (by first | omega | decide)) | (intro _; exact dgs_ext (hd (by assumption)) (by first | (refine Int.le_antisymm ?_ ?_ <;> omega) | omega) rfl (by first | (refine Int.le_antisymm ?_ ?_ <;> omega) | omega) (by assumption) (by assumption)) | (intro _; exact dgs_ext (hd (by first | (refine Int.le_antisymm ?_ ?_ <;> omega) | omega)) (by first | (refine Int.le_antisymm ?_ ?_ <;> omega) | omega) rfl (by first | (refine Int.le_antisymm ?_ ?_ <;> omega) | omega) (by assumption) (by assumption))) (by first | assumption | exact ee_go he (by assumption) (by first | (refine Int.le_antisymm ?_ ?_ <;> omega) | omega) (by first | (refine Int.le_antisymm ?_ ?_ <;> omega) | omega) (by first | (refine Int.le_antisymm ?_ ?_ <;> omega) | omega) (by first | (refine Int.le_antisymm ?_ ?_ <;> omega) | omega)) (by first | (refine Int.le_antisymm ?_ ?_ <;> omega) | omega) H _ ls hP hD hS (lv_sub hl [0] rfl)
          · have hP : va_P D vwCl [(tp, .inr (5, [.ref by_, .int tz, .int s1, .int a1, .int b2, .int tv])), (by_, .inl (cI, 400, .inl f))] H := hP
            have hD : va_D A [(tp, .inr (5, [.ref by_, .int tz, .int s1, .int a1, .int b2, .int tv])), (by_, .inl (cI, 400, .inl f))] := hD
            refine lv_aload_n S.1 S.2.1 dX5_advance_142 rfl (lv_at hl 0 rfl) ?_
            refine b_get (v := .int s1) S iX5 hK hP 0 rfl rfl 2 (by decide) (by decide +kernel) rfl dX5_advance_143 ?_
            refine lv_icmp_ne (tgt := 162) S.1 S.2.1 dX5_advance_146 (by decide) (fun c_236 => ?_) (fun c_236 => ?_)
            · rw [eq2 (a := 3) (b := s1) (A := 3) (B := s1.toInt) rfl rfl] at c_236
              exact K b2 (by first | with_reducible assumption | assumption | omega | decide | (rw [show Int32.toInt 0 = 0 from rfl]; omega)) (by first | with_reducible assumption | (and_intros <;> first | with_reducible assumption | (intros; refine Int.le_antisymm ?_ ?_ <;> omega) | omega) | assumption | decide | (rw [show Int32.toInt 0 = 0 from rfl]; omega)) (by first | assumption | (intro hq; exact absurd hq (by first | omega | decide)) | (intro _; exact dgs_ext (hd (by assumption)) (by first | (refine Int.le_antisymm ?_ ?_ <;> omega) | omega) rfl (by first | (refine Int.le_antisymm ?_ ?_ <;> omega) | omega) (by assumption) (by assumption)) | (intro _; exact dgs_ext (hd (by first | (refine Int.le_antisymm ?_ ?_ <;> omega) | omega)) (by first | (refine Int.le_antisymm ?_ ?_ <;> omega) | omega) rfl (by first | (refine Int.le_antisymm ?_ ?_ <;> omega) | omega) (by assumption) (by assumption))) (by first | assumption | exact ee_go he (by assumption) (by first | (refine Int.le_antisymm ?_ ?_ <;> omega) | omega) (by first | (refine Int.le_antisymm ?_ ?_ <;> omega) | omega) (by first | (refine Int.le_antisymm ?_ ?_ <;> omega) | omega) (by first | (refine Int.le_antisymm ?_ ?_ <;> omega) | omega)) (by first | exact ee_outs (by first | (refine Int.le_antisymm ?_ ?_ <;> omega) | omega) | exact ee_st (by first | (refine Int.le_antisymm ?_ ?_ <;> omega) | omega) | exact ee_no (by assumption) (by first | (refine Int.le_antisymm ?_ ?_ <;> omega) | omega)) H _ ls hP hD hS (lv_sub hl [0] rfl)
            · rw [eq2 (a := 3) (b := s1) (A := 3) (B := s1.toInt) rfl rfl] at c_236
              refine lv_aload_n S.1 S.2.1 dX5_advance_149 rfl (lv_at hl 0 rfl) ?_
              refine lv_dup S.1 S.2.1 dX5_advance_150 rfl ?_
              refine b_get (v := .int b2) S iX5 hK hP 0 rfl rfl 4 (by decide) (by decide +kernel) rfl dX5_advance_151 ?_
              refine lv_iconst (v := (1)) S.1 S.2.1 dX5_advance_154 (by decide) ?_
              refine lv_iadd S.1 S.2.1 dX5_advance_155 ?_
              refine lv_topi (fun x_237 ex_237 => ?_)
              have tx_237 : x_237.toInt = b2.toInt + (1) := addI (A := b2.toInt) (B := 1) ex_237 rfl rfl (by  omega) (by  omega)
              refine b_put (v := .int x_237) S iX5 tyX5 tyX5_ok nmX5 hK hP hD hS 0 rfl rfl 4 (by decide) (by decide +kernel) rfl rfl rfl (Nat.le_of_ble_eq_true rfl) dX5_advance_156 (fun H locs hP hD hS => ?_)
              have hP : va_P D vwCl [(tp, .inr (5, [.ref by_, .int tz, .int s1, .int a1, .int x_237, .int tv])), (by_, .inl (cI, 400, .inl f))] H := hP
              have hD : va_D A [(tp, .inr (5, [.ref by_, .int tz, .int s1, .int a1, .int x_237, .int tv])), (by_, .inl (cI, 400, .inl f))] := hD
              refine lv_goto (tgt := 103) S.1 S.2.1 dX5_advance_159 (by decide) ?_
              exact ih x_237 (by first | with_reducible assumption | assumption | omega | decide | (rw [show Int32.toInt 0 = 0 from rfl]; omega)) (by first | with_reducible assumption | (and_intros <;> first | with_reducible assumption | (intros; refine Int.le_antisymm ?_ ?_ <;> omega) | omega) | assumption | decide | (rw [show Int32.toInt 0 = 0 from rfl]; omega)) (by first | assumption | (intro hq; exact absurd hq (by first | omega | decide)) | (intro _; exact dgs_ext (hd (by assumption)) (by first | (refine Int.le_antisymm ?_ ?_ <;> omega) | omega) rfl (by first | (refine Int.le_antisymm ?_ ?_ <;> omega) | omega) (by assumption) (by assumption)) | (intro _; exact dgs_ext (hd (by first | (refine Int.le_antisymm ?_ ?_ <;> omega) | omega)) (by first | (refine Int.le_antisymm ?_ ?_ <;> omega) | omega) rfl (by first | (refine Int.le_antisymm ?_ ?_ <;> omega) | omega) (by assumption) (by assumption))) (by first | assumption | exact ee_go he (by assumption) (by first | (refine Int.le_antisymm ?_ ?_ <;> omega) | omega) (by first | (refine Int.le_antisymm ?_ ?_ <;> omega) | omega) (by first | (refine Int.le_antisymm ?_ ?_ <;> omega) | omega) (by first | (refine Int.le_antisymm ?_ ?_ <;> omega) | omega)) (by first | (refine Int.le_antisymm ?_ ?_ <;> omega) | omega) H _ ls hP hD hS (lv_sub hl [0] rfl)
          · have hP : va_P D vwCl [(tp, .inr (5, [.ref by_, .int tz, .int s1, .int a1, .int b2, .int tv])), (by_, .inl (cI, 400, .inl f))] H := hP
            have hD : va_D A [(tp, .inr (5, [.ref by_, .int tz, .int s1, .int a1, .int b2, .int tv])), (by_, .inl (cI, 400, .inl f))] := hD
            refine lv_aload_n S.1 S.2.1 dX5_advance_142 rfl (lv_at hl 0 rfl) ?_
            refine b_get (v := .int s1) S iX5 hK hP 0 rfl rfl 2 (by decide) (by decide +kernel) rfl dX5_advance_143 ?_
            refine lv_icmp_ne (tgt := 162) S.1 S.2.1 dX5_advance_146 (by decide) (fun c_238 => ?_) (fun c_238 => ?_)
            · rw [eq2 (a := 4) (b := s1) (A := 4) (B := s1.toInt) rfl rfl] at c_238
              exact K b2 (by first | with_reducible assumption | assumption | omega | decide | (rw [show Int32.toInt 0 = 0 from rfl]; omega)) (by first | with_reducible assumption | (and_intros <;> first | with_reducible assumption | (intros; refine Int.le_antisymm ?_ ?_ <;> omega) | omega) | assumption | decide | (rw [show Int32.toInt 0 = 0 from rfl]; omega)) (by first | assumption | (intro hq; exact absurd hq (by first | omega | decide)) | (intro _; exact dgs_ext (hd (by assumption)) (by first | (refine Int.le_antisymm ?_ ?_ <;> omega) | omega) rfl (by first | (refine Int.le_antisymm ?_ ?_ <;> omega) | omega) (by assumption) (by assumption)) | (intro _; exact dgs_ext (hd (by first | (refine Int.le_antisymm ?_ ?_ <;> omega) | omega)) (by first | (refine Int.le_antisymm ?_ ?_ <;> omega) | omega) rfl (by first | (refine Int.le_antisymm ?_ ?_ <;> omega) | omega) (by assumption) (by assumption))) (by first | assumption | exact ee_go he (by assumption) (by first | (refine Int.le_antisymm ?_ ?_ <;> omega) | omega) (by first | (refine Int.le_antisymm ?_ ?_ <;> omega) | omega) (by first | (refine Int.le_antisymm ?_ ?_ <;> omega) | omega) (by first | (refine Int.le_antisymm ?_ ?_ <;> omega) | omega)) (by first | exact ee_outs (by first | (refine Int.le_antisymm ?_ ?_ <;> omega) | omega) | exact ee_st (by first | (refine Int.le_antisymm ?_ ?_ <;> omega) | omega) | exact ee_no (by assumption) (by first | (refine Int.le_antisymm ?_ ?_ <;> omega) | omega)) H _ ls hP hD hS (lv_sub hl [0] rfl)
            · rw [eq2 (a := 4) (b := s1) (A := 4) (B := s1.toInt) rfl rfl] at c_238
              refine lv_aload_n S.1 S.2.1 dX5_advance_149 rfl (lv_at hl 0 rfl) ?_
              refine lv_dup S.1 S.2.1 dX5_advance_150 rfl ?_
              refine b_get (v := .int b2) S iX5 hK hP 0 rfl rfl 4 (by decide) (by decide +kernel) rfl dX5_advance_151 ?_
              refine lv_iconst (v := (1)) S.1 S.2.1 dX5_advance_154 (by decide) ?_
              refine lv_iadd S.1 S.2.1 dX5_advance_155 ?_
              refine lv_topi (fun x_239 ex_239 => ?_)
              have tx_239 : x_239.toInt = b2.toInt + (1) := addI (A := b2.toInt) (B := 1) ex_239 rfl rfl (by  omega) (by  omega)
              refine b_put (v := .int x_239) S iX5 tyX5 tyX5_ok nmX5 hK hP hD hS 0 rfl rfl 4 (by decide) (by decide +kernel) rfl rfl rfl (Nat.le_of_ble_eq_true rfl) dX5_advance_156 (fun H locs hP hD hS => ?_)
              have hP : va_P D vwCl [(tp, .inr (5, [.ref by_, .int tz, .int s1, .int a1, .int x_239, .int tv])), (by_, .inl (cI, 400, .inl f))] H := hP
              have hD : va_D A [(tp, .inr (5, [.ref by_, .int tz, .int s1, .int a1, .int x_239, .int tv])), (by_, .inl (cI, 400, .inl f))] := hD
              refine lv_goto (tgt := 103) S.1 S.2.1 dX5_advance_159 (by decide) ?_
              exact ih x_239 (by first | with_reducible assumption | assumption | omega | decide | (rw [show Int32.toInt 0 = 0 from rfl]; omega)) (by first | with_reducible assumption | (and_intros <;> first | with_reducible assumption | (intros; refine Int.le_antisymm ?_ ?_ <;> omega) | omega) | assumption | decide | (rw [show Int32.toInt 0 = 0 from rfl]; omega)) (by first | assumption | (intro hq; exact absurd hq (by first | omega | decide)) | (intro _; exact dgs_ext (hd (by assumption)) (by first | (refine Int.le_antisymm ?_ ?_ <;> omega) | omega) rfl (by first | (refine Int.le_antisymm ?_ ?_ <;> omega) | omega) (by assumption) (by assumption)) | (intro _; exact dgs_ext (hd (by first | (refine Int.le_antisymm ?_ ?_ <;> omega) | omega)) (by first | (refine Int.le_antisymm ?_ ?_ <;> omega) | omega) rfl (by first | (refine Int.le_antisymm ?_ ?_ <;> omega) | omega) (by assumption) (by assumption))) (by first | assumption | exact ee_go he (by assumption) (by first | (refine Int.le_antisymm ?_ ?_ <;> omega) | omega) (by first | (refine Int.le_antisymm ?_ ?_ <;> omega) | omega) (by first | (refine Int.le_antisymm ?_ ?_ <;> omega) | omega) (by first | (refine Int.le_antisymm ?_ ?_ <;> omega) | omega)) (by first | (refine Int.le_antisymm ?_ ?_ <;> omega) | omega) H _ ls hP hD hS (lv_sub hl [0] rfl)
set_option maxHeartbeats 4000000 in
set_option maxRecDepth 100000 in
theorem s_X5_advance_0 (l : Launch) (D : va_G) (cI cZ cC cS : ClassId) (sq : Nat → Nat) (sz : Nat) (tp : Nat) (by_ : Nat) (tz : Int32) (ts : Int32) (ta : Int32) (tv : Int32) (f : Nat → Int32) (hrg_f : rng f 400 (0) (255)) (hz : 0 ≤ tz.toInt ∧ tz.toInt ≤ 400) : mV l yX5_advance wsX5_advance 1 40 0 0 D (tyW cI cZ cC cS) sq [(tp, .inr (5, [.ref by_, .int tz, .int ts, .int ta, .int 0, .int tv])), (by_, .inl (cI, 400, .inl f))] sz [.ref tp] (fun w => (∃ (ts2 : Int32), ∃ (ta2 : Int32), ∃ (tb2 : Int32), ∃ (tv2 : Int32), (0 ≤ ta2.toInt ∧ ta2.toInt ≤ tb2.toInt ∧ tb2.toInt ≤ tz.toInt) ∧ (ts2.toInt = 2 → 0 ≤ tv2.toInt ∧ tv2.toInt ≤ 999) ∧ (tok (tx f tz.toInt) (tS (tx f tz.toInt) 0) ts2.toInt ta2.toInt tb2.toInt tv2.toInt) ∧ w = [(tp, .inr (5, [.ref by_, .int tz, .int ts2, .int ta2, .int tb2, .int tv2])), (by_, .inl (cI, 400, .inl f))])) := by
  refine b_metV (cc := cX5_advance) (maxL := 1) (ret := none) (by decide) rfl (Nat.le_of_ble_eq_true rfl) ?_
  intro p e s m below meth c ls A H X hsz hP hK hT hD hA hS hl
  have S : CallFix p m c cX5_advance 1 s ([.ref tp] : List Value).toArray wsX5_advance RX5 := X.1
  have hl : lv_has ls 1 [(0, .ref tp)] := hl
  have iX5 := jX5_advance_X5
  refine lp_advance1_0 l D cI cZ cC cS sq tp by_ tz ts ta tv f hrg_f hz X hK hT hA (fun b1_1 hi_2 hi_3 hi_4 hi_5 H locs ls hP hD hS hl => ?_) _ (0) (by first | with_reducible assumption | assumption | omega | decide | (rw [show Int32.toInt 0 = 0 from rfl]; omega)) (by first | with_reducible assumption | (and_intros <;> first | with_reducible assumption | (intros; refine Int.le_antisymm ?_ ?_ <;> omega) | omega) | assumption | decide | (rw [show Int32.toInt 0 = 0 from rfl]; omega)) rfl (Nat.lt_succ_self _) H _ ls hP hD hS (lv_sub hl [0] rfl)
  refine lv_aload_n S.1 S.2.1 dX5_advance_52 rfl (lv_at hl 0 rfl) ?_
  refine lv_aload_n S.1 S.2.1 dX5_advance_53 rfl (lv_at hl 0 rfl) ?_
  refine b_get (v := .int b1_1) S iX5 hK hP 0 rfl rfl 4 (by decide) (by decide +kernel) rfl dX5_advance_54 ?_
  refine b_put (v := .int b1_1) S iX5 tyX5 tyX5_ok nmX5 hK hP hD hS 0 rfl rfl 3 (by decide) (by decide +kernel) rfl rfl rfl (Nat.le_of_ble_eq_true rfl) dX5_advance_57 (fun H locs hP hD hS => ?_)
  have hP : va_P D vwCl [(tp, .inr (5, [.ref by_, .int tz, .int ts, .int b1_1, .int b1_1, .int tv])), (by_, .inl (cI, 400, .inl f))] H := hP
  have hD : va_D A [(tp, .inr (5, [.ref by_, .int tz, .int ts, .int b1_1, .int b1_1, .int tv])), (by_, .inl (cI, 400, .inl f))] := hD
  refine lv_aload_n S.1 S.2.1 dX5_advance_60 rfl (lv_at hl 0 rfl) ?_
  refine b_get (v := .int b1_1) S iX5 hK hP 0 rfl rfl 3 (by decide) (by decide +kernel) rfl dX5_advance_61 ?_
  refine lv_aload_n S.1 S.2.1 dX5_advance_64 rfl (lv_at hl 0 rfl) ?_
  refine b_get (v := .int tz) S iX5 hK hP 0 rfl rfl 1 (by decide) (by decide +kernel) rfl dX5_advance_65 ?_
  refine lv_icmp_lt (tgt := 77) S.1 S.2.1 dX5_advance_68 (by decide) (fun c_6 => ?_) (fun c_6 => ?_)
  · rw [lt2 (a := b1_1) (b := tz) (A := b1_1.toInt) (B := tz.toInt) rfl rfl] at c_6
    refine lv_aload_n S.1 S.2.1 dX5_advance_77 rfl (lv_at hl 0 rfl) ?_
    refine lv_aload_n S.1 S.2.1 dX5_advance_78 rfl (lv_at hl 0 rfl) ?_
    refine b_get (v := .ref by_) S iX5 hK hP 0 rfl rfl 0 (by decide) (by decide +kernel) rfl dX5_advance_79 ?_
    refine lv_aload_n S.1 S.2.1 dX5_advance_82 rfl (lv_at hl 0 rfl) ?_
    refine b_get (v := .int b1_1) S iX5 hK hP 0 rfl rfl 3 (by decide) (by decide +kernel) rfl dX5_advance_83 ?_
    have hin_7 : vp_in b1_1 400 := (in_of (n := 400) (by  omega) (by  omega))
    refine va_iald S.1 S.2.1 hK.1 hP 1 0 rfl rfl hin_7 dX5_advance_86 ?_
    refine lv_topi (fun x_8 ex_8 => ?_)
    have tx_8 := rng_get (x := x_8) (show rng f 400 (0) (255) by assumption) hin_7 ex_8
    have qx_8 := tx_get (n := tz.toInt) (i := b1_1) (by first | (refine Int.le_antisymm ?_ ?_ <;> omega) | omega) (by first | (refine Int.le_antisymm ?_ ?_ <;> omega) | omega) ex_8
    refine b_ai (wr := [(tp, .inr (5, [.ref by_, .int tz, .int ts, .int b1_1, .int b1_1, .int tv])), (by_, .inl (cI, 400, .inl f))]) (b_runS (As := [.int x_8]) (s_X5_sortOf l D cI cZ cC cS sq H.size x_8) S gX5_advance_X5_sortOf rfl hdS_X5_sortOf ⟨Nat.le_of_ble_eq_true rfl, Nat.le_of_ble_eq_true rfl⟩ ⟨Nat.le_of_ble_eq_true rfl, Nat.le_of_ble_eq_true rfl⟩ hK hT hS hA hP hD [] rfl (by decide) rfl hl.1 rfl (Nat.le_of_ble_eq_true rfl) dX5_advance_87) hP hD hS hA [] [0, 1] rfl rfl (by decide) (by decide) (fun r_9 w_10 H locs hw_11 hP hD hS => ?_)
    rcases hw_11 with ⟨hf_12, rfl, rfl⟩ | ⟨hf_13, hf_14, rfl, rfl⟩ | ⟨hf_15, rfl, rfl⟩ | ⟨hf_16, rfl, rfl⟩
    · have hP : va_P D vwCl [(tp, .inr (5, [.ref by_, .int tz, .int ts, .int b1_1, .int b1_1, .int tv])), (by_, .inl (cI, 400, .inl f))] H := hP
      have hD : va_D A [(tp, .inr (5, [.ref by_, .int tz, .int ts, .int b1_1, .int b1_1, .int tv])), (by_, .inl (cI, 400, .inl f))] := hD
      refine b_put (v := .int 1) S iX5 tyX5 tyX5_ok nmX5 hK hP hD hS 0 rfl rfl 2 (by decide) (by decide +kernel) rfl rfl rfl (Nat.le_of_ble_eq_true rfl) dX5_advance_90 (fun H locs hP hD hS => ?_)
      have hP : va_P D vwCl [(tp, .inr (5, [.ref by_, .int tz, .int 1, .int b1_1, .int b1_1, .int tv])), (by_, .inl (cI, 400, .inl f))] H := hP
      have hD : va_D A [(tp, .inr (5, [.ref by_, .int tz, .int 1, .int b1_1, .int b1_1, .int tv])), (by_, .inl (cI, 400, .inl f))] := hD
      refine lv_aload_n S.1 S.2.1 dX5_advance_93 rfl (lv_at hl 0 rfl) ?_
      refine lv_dup S.1 S.2.1 dX5_advance_94 rfl ?_
      refine b_get (v := .int b1_1) S iX5 hK hP 0 rfl rfl 4 (by decide) (by decide +kernel) rfl dX5_advance_95 ?_
      refine lv_iconst (v := (1)) S.1 S.2.1 dX5_advance_98 (by decide) ?_
      refine lv_iadd S.1 S.2.1 dX5_advance_99 ?_
      refine lv_topi (fun x_17 ex_17 => ?_)
      have tx_17 : x_17.toInt = b1_1.toInt + (1) := addI (A := b1_1.toInt) (B := 1) ex_17 rfl rfl (by  omega) (by  omega)
      refine b_put (v := .int x_17) S iX5 tyX5 tyX5_ok nmX5 hK hP hD hS 0 rfl rfl 4 (by decide) (by decide +kernel) rfl rfl rfl (Nat.le_of_ble_eq_true rfl) dX5_advance_100 (fun H locs hP hD hS => ?_)
      have hP : va_P D vwCl [(tp, .inr (5, [.ref by_, .int tz, .int 1, .int b1_1, .int x_17, .int tv])), (by_, .inl (cI, 400, .inl f))] H := hP
      have hD : va_D A [(tp, .inr (5, [.ref by_, .int tz, .int 1, .int b1_1, .int x_17, .int tv])), (by_, .inl (cI, 400, .inl f))] := hD
      refine lp_advance2_0 l D cI cZ cC cS sq tp by_ tz ts ta tv f hrg_f hz ((1)) b1_1 (by first | with_reducible assumption | (and_intros <;> first | with_reducible assumption | (intros; refine Int.le_antisymm ?_ ?_ <;> omega) | omega) | assumption | decide | (rw [show Int32.toInt 0 = 0 from rfl]; omega)) X hK hT hA (fun b2_18 hi_19 hi_20 hi_21 hi_22 hi_23 H locs ls hP hD hS hl => ?_) _ x_17 (by first | with_reducible assumption | assumption | omega | decide | (rw [show Int32.toInt 0 = 0 from rfl]; omega)) (by first | with_reducible assumption | (and_intros <;> first | with_reducible assumption | (intros; refine Int.le_antisymm ?_ ?_ <;> omega) | omega) | assumption | decide | (rw [show Int32.toInt 0 = 0 from rfl]; omega)) (by first | (intro hq; exact absurd hq (by first | omega | decide)) | (intro _; exact dgs_ext (i := b1_1) (b := b1_1.toInt) (fun j h1 h2 => absurd h2 (by first | (refine Int.le_antisymm ?_ ?_ <;> omega) | omega)) (by first | (refine Int.le_antisymm ?_ ?_ <;> omega) | omega) rfl (by first | (refine Int.le_antisymm ?_ ?_ <;> omega) | omega) (by assumption) (by assumption))) (congrArg (ee _ _) (by first | (refine Int.le_antisymm ?_ ?_ <;> omega) | omega)) (Nat.lt_succ_self _) H _ ls hP hD hS (lv_sub hl [0] rfl)
      refine lv_aload_n S.1 S.2.1 dX5_advance_162 rfl (lv_at hl 0 rfl) ?_
      refine b_get (v := .int 1) S iX5 hK hP 0 rfl rfl 2 (by decide) (by decide +kernel) rfl dX5_advance_163 ?_
      refine lv_iconst (v := (2)) S.1 S.2.1 dX5_advance_166 (by decide) ?_
      refine lv_icmp_ne (tgt := 174) S.1 S.2.1 dX5_advance_167 (by decide) (fun c_24 => ?_) (fun c_24 => absurd c_24 (by decide))
      have lq1 : Int32.toInt (1) = 1 := by decide
      exact b_vret S.1 S.2.1 X.2.1 X.2.2.1 hP hD hS ⟨(1), b1_1, b2_18, tv, (by first | with_reducible assumption | (and_intros <;> first | with_reducible assumption | (intros; refine Int.le_antisymm ?_ ?_ <;> omega) | omega) | assumption | decide | (rw [show Int32.toInt 0 = 0 from rfl]; omega)), (by first | assumption | (intro hq; exact absurd hq (by first | omega | decide))), (by first | exact tok_end (by first | (refine Int.le_antisymm ?_ ?_ <;> omega) | omega) (by first | (refine Int.le_antisymm ?_ ?_ <;> omega) | omega) (by first | rfl | omega) | exact tok_run (by first | (refine Int.le_antisymm ?_ ?_ <;> omega) | omega) (by assumption) (by first | (refine Int.le_antisymm ?_ ?_ <;> omega) | omega) (by first | assumption | omega) (by first | (refine Int.le_antisymm ?_ ?_ <;> omega) | omega) (by first | (refine Int.le_antisymm ?_ ?_ <;> omega) | omega) | exact tok_num (s0 := Int32.toInt 2) (by first | (refine Int.le_antisymm ?_ ?_ <;> omega) | omega) (by assumption) (by first | (refine Int.le_antisymm ?_ ?_ <;> omega) | omega) rfl (by first | assumption | omega) (by first | (refine Int.le_antisymm ?_ ?_ <;> omega) | omega) (by assumption)), rfl⟩ dX5_advance_174
    · have hP : va_P D vwCl [(tp, .inr (5, [.ref by_, .int tz, .int ts, .int b1_1, .int b1_1, .int tv])), (by_, .inl (cI, 400, .inl f))] H := hP
      have hD : va_D A [(tp, .inr (5, [.ref by_, .int tz, .int ts, .int b1_1, .int b1_1, .int tv])), (by_, .inl (cI, 400, .inl f))] := hD
      refine b_put (v := .int 2) S iX5 tyX5 tyX5_ok nmX5 hK hP hD hS 0 rfl rfl 2 (by decide) (by decide +kernel) rfl rfl rfl (Nat.le_of_ble_eq_true rfl) dX5_advance_90 (fun H locs hP hD hS => ?_)
      have hP : va_P D vwCl [(tp, .inr (5, [.ref by_, .int tz, .int 2, .int b1_1, .int b1_1, .int tv])), (by_, .inl (cI, 400, .inl f))] H := hP
      have hD : va_D A [(tp, .inr (5, [.ref by_, .int tz, .int 2, .int b1_1, .int b1_1, .int tv])), (by_, .inl (cI, 400, .inl f))] := hD
      refine lv_aload_n S.1 S.2.1 dX5_advance_93 rfl (lv_at hl 0 rfl) ?_
      refine lv_dup S.1 S.2.1 dX5_advance_94 rfl ?_
      refine b_get (v := .int b1_1) S iX5 hK hP 0 rfl rfl 4 (by decide) (by decide +kernel) rfl dX5_advance_95 ?_
      refine lv_iconst (v := (1)) S.1 S.2.1 dX5_advance_98 (by decide) ?_
      refine lv_iadd S.1 S.2.1 dX5_advance_99 ?_
      refine lv_topi (fun x_25 ex_25 => ?_)
      have tx_25 : x_25.toInt = b1_1.toInt + (1) := addI (A := b1_1.toInt) (B := 1) ex_25 rfl rfl (by  omega) (by  omega)
      refine b_put (v := .int x_25) S iX5 tyX5 tyX5_ok nmX5 hK hP hD hS 0 rfl rfl 4 (by decide) (by decide +kernel) rfl rfl rfl (Nat.le_of_ble_eq_true rfl) dX5_advance_100 (fun H locs hP hD hS => ?_)
      have hP : va_P D vwCl [(tp, .inr (5, [.ref by_, .int tz, .int 2, .int b1_1, .int x_25, .int tv])), (by_, .inl (cI, 400, .inl f))] H := hP
      have hD : va_D A [(tp, .inr (5, [.ref by_, .int tz, .int 2, .int b1_1, .int x_25, .int tv])), (by_, .inl (cI, 400, .inl f))] := hD
      refine lp_advance2_0 l D cI cZ cC cS sq tp by_ tz ts ta tv f hrg_f hz ((2)) b1_1 (by first | with_reducible assumption | (and_intros <;> first | with_reducible assumption | (intros; refine Int.le_antisymm ?_ ?_ <;> omega) | omega) | assumption | decide | (rw [show Int32.toInt 0 = 0 from rfl]; omega)) X hK hT hA (fun b2_26 hi_27 hi_28 hi_29 hi_30 hi_31 H locs ls hP hD hS hl => ?_) _ x_25 (by first | with_reducible assumption | assumption | omega | decide | (rw [show Int32.toInt 0 = 0 from rfl]; omega)) (by first | with_reducible assumption | (and_intros <;> first | with_reducible assumption | (intros; refine Int.le_antisymm ?_ ?_ <;> omega) | omega) | assumption | decide | (rw [show Int32.toInt 0 = 0 from rfl]; omega)) (by first | (intro hq; exact absurd hq (by first | omega | decide)) | (intro _; exact dgs_ext (i := b1_1) (b := b1_1.toInt) (fun j h1 h2 => absurd h2 (by first | (refine Int.le_antisymm ?_ ?_ <;> omega) | omega)) (by first | (refine Int.le_antisymm ?_ ?_ <;> omega) | omega) rfl (by first | (refine Int.le_antisymm ?_ ?_ <;> omega) | omega) (by assumption) (by assumption))) (congrArg (ee _ _) (by first | (refine Int.le_antisymm ?_ ?_ <;> omega) | omega)) (Nat.lt_succ_self _) H _ ls hP hD hS (lv_sub hl [0] rfl)
      refine lv_aload_n S.1 S.2.1 dX5_advance_162 rfl (lv_at hl 0 rfl) ?_
      refine b_get (v := .int 2) S iX5 hK hP 0 rfl rfl 2 (by decide) (by decide +kernel) rfl dX5_advance_163 ?_
      refine lv_iconst (v := (2)) S.1 S.2.1 dX5_advance_166 (by decide) ?_
      refine lv_icmp_ne (tgt := 174) S.1 S.2.1 dX5_advance_167 (by decide) (fun c_32 => absurd c_32 (by decide)) (fun c_32 => ?_)
      refine lv_aload_n S.1 S.2.1 dX5_advance_170 rfl (lv_at hl 0 rfl) ?_
      refine b_av (wr := []) (b_runV (q0 := 0) (ci := 5) (As := []) (s_X5_readFigures l D cI cZ cC cS sq H.size tp by_ tz b1_1 b2_26 tv f (by first | with_reducible assumption | assumption | omega | decide | (rw [show Int32.toInt 0 = 0 from rfl]; omega)) (by first | with_reducible assumption | (and_intros <;> first | with_reducible assumption | (intros; refine Int.le_antisymm ?_ ?_ <;> omega) | omega) | assumption | decide | (rw [show Int32.toInt 0 = 0 from rfl]; omega)) (by first | assumption | exact (by assumption : _ → dgs _ _ _) rfl)) S gX5_advance_X5_readFigures rfl hdV_X5_readFigures ⟨Nat.le_of_ble_eq_true rfl, Nat.le_of_ble_eq_true rfl⟩ ⟨Nat.le_of_ble_eq_true rfl, Nat.le_of_ble_eq_true rfl⟩ hK hT hS hA hP hD rfl rfl [0, 1] rfl (by decide) rfl hl.1 rfl (Nat.le_of_ble_eq_true rfl) dX5_advance_171) hP hD hS hA [0, 1] [] rfl rfl (by decide) (by decide) (fun w_34 H locs hw_35 hP hD hS => ?_)
      obtain ⟨ts2_36, tv2_37, hf_38, hf_39, hf_40, rfl⟩ := hw_35
      have hP : va_P D vwCl [(tp, .inr (5, [.ref by_, .int tz, .int ts2_36, .int b1_1, .int b2_26, .int tv2_37])), (by_, .inl (cI, 400, .inl f))] H := hP
      have hD : va_D A [(tp, .inr (5, [.ref by_, .int tz, .int ts2_36, .int b1_1, .int b2_26, .int tv2_37])), (by_, .inl (cI, 400, .inl f))] := hD
      exact b_vret S.1 S.2.1 X.2.1 X.2.2.1 hP hD hS ⟨ts2_36, b1_1, b2_26, tv2_37, (by first | with_reducible assumption | (and_intros <;> first | with_reducible assumption | (intros; refine Int.le_antisymm ?_ ?_ <;> omega) | omega) | assumption | decide | (rw [show Int32.toInt 0 = 0 from rfl]; omega)), (by first | assumption | (intro hq; exact absurd hq (by first | omega | decide))), (by first | exact tok_end (by first | (refine Int.le_antisymm ?_ ?_ <;> omega) | omega) (by first | (refine Int.le_antisymm ?_ ?_ <;> omega) | omega) (by first | rfl | omega) | exact tok_run (by first | (refine Int.le_antisymm ?_ ?_ <;> omega) | omega) (by assumption) (by first | (refine Int.le_antisymm ?_ ?_ <;> omega) | omega) (by first | assumption | omega) (by first | (refine Int.le_antisymm ?_ ?_ <;> omega) | omega) (by first | (refine Int.le_antisymm ?_ ?_ <;> omega) | omega) | exact tok_num (s0 := Int32.toInt 2) (by first | (refine Int.le_antisymm ?_ ?_ <;> omega) | omega) (by assumption) (by first | (refine Int.le_antisymm ?_ ?_ <;> omega) | omega) rfl (by first | assumption | omega) (by first | (refine Int.le_antisymm ?_ ?_ <;> omega) | omega) (by assumption)), rfl⟩ dX5_advance_174
    · have hP : va_P D vwCl [(tp, .inr (5, [.ref by_, .int tz, .int ts, .int b1_1, .int b1_1, .int tv])), (by_, .inl (cI, 400, .inl f))] H := hP
      have hD : va_D A [(tp, .inr (5, [.ref by_, .int tz, .int ts, .int b1_1, .int b1_1, .int tv])), (by_, .inl (cI, 400, .inl f))] := hD
      refine b_put (v := .int 3) S iX5 tyX5 tyX5_ok nmX5 hK hP hD hS 0 rfl rfl 2 (by decide) (by decide +kernel) rfl rfl rfl (Nat.le_of_ble_eq_true rfl) dX5_advance_90 (fun H locs hP hD hS => ?_)
      have hP : va_P D vwCl [(tp, .inr (5, [.ref by_, .int tz, .int 3, .int b1_1, .int b1_1, .int tv])), (by_, .inl (cI, 400, .inl f))] H := hP
      have hD : va_D A [(tp, .inr (5, [.ref by_, .int tz, .int 3, .int b1_1, .int b1_1, .int tv])), (by_, .inl (cI, 400, .inl f))] := hD
      refine lv_aload_n S.1 S.2.1 dX5_advance_93 rfl (lv_at hl 0 rfl) ?_
      refine lv_dup S.1 S.2.1 dX5_advance_94 rfl ?_
      refine b_get (v := .int b1_1) S iX5 hK hP 0 rfl rfl 4 (by decide) (by decide +kernel) rfl dX5_advance_95 ?_
      refine lv_iconst (v := (1)) S.1 S.2.1 dX5_advance_98 (by decide) ?_
      refine lv_iadd S.1 S.2.1 dX5_advance_99 ?_
      refine lv_topi (fun x_41 ex_41 => ?_)
      have tx_41 : x_41.toInt = b1_1.toInt + (1) := addI (A := b1_1.toInt) (B := 1) ex_41 rfl rfl (by  omega) (by  omega)
      refine b_put (v := .int x_41) S iX5 tyX5 tyX5_ok nmX5 hK hP hD hS 0 rfl rfl 4 (by decide) (by decide +kernel) rfl rfl rfl (Nat.le_of_ble_eq_true rfl) dX5_advance_100 (fun H locs hP hD hS => ?_)
      have hP : va_P D vwCl [(tp, .inr (5, [.ref by_, .int tz, .int 3, .int b1_1, .int x_41, .int tv])), (by_, .inl (cI, 400, .inl f))] H := hP
      have hD : va_D A [(tp, .inr (5, [.ref by_, .int tz, .int 3, .int b1_1, .int x_41, .int tv])), (by_, .inl (cI, 400, .inl f))] := hD
      refine lp_advance2_0 l D cI cZ cC cS sq tp by_ tz ts ta tv f hrg_f hz ((3)) b1_1 (by first | with_reducible assumption | (and_intros <;> first | with_reducible assumption | (intros; refine Int.le_antisymm ?_ ?_ <;> omega) | omega) | assumption | decide | (rw [show Int32.toInt 0 = 0 from rfl]; omega)) X hK hT hA (fun b2_42 hi_43 hi_44 hi_45 hi_46 hi_47 H locs ls hP hD hS hl => ?_) _ x_41 (by first | with_reducible assumption | assumption | omega | decide | (rw [show Int32.toInt 0 = 0 from rfl]; omega)) (by first | with_reducible assumption | (and_intros <;> first | with_reducible assumption | (intros; refine Int.le_antisymm ?_ ?_ <;> omega) | omega) | assumption | decide | (rw [show Int32.toInt 0 = 0 from rfl]; omega)) (by first | (intro hq; exact absurd hq (by first | omega | decide)) | (intro _; exact dgs_ext (i := b1_1) (b := b1_1.toInt) (fun j h1 h2 => absurd h2 (by first | (refine Int.le_antisymm ?_ ?_ <;> omega) | omega)) (by first | (refine Int.le_antisymm ?_ ?_ <;> omega) | omega) rfl (by first | (refine Int.le_antisymm ?_ ?_ <;> omega) | omega) (by assumption) (by assumption))) (congrArg (ee _ _) (by first | (refine Int.le_antisymm ?_ ?_ <;> omega) | omega)) (Nat.lt_succ_self _) H _ ls hP hD hS (lv_sub hl [0] rfl)
      refine lv_aload_n S.1 S.2.1 dX5_advance_162 rfl (lv_at hl 0 rfl) ?_
      refine b_get (v := .int 3) S iX5 hK hP 0 rfl rfl 2 (by decide) (by decide +kernel) rfl dX5_advance_163 ?_
      refine lv_iconst (v := (2)) S.1 S.2.1 dX5_advance_166 (by decide) ?_
      refine lv_icmp_ne (tgt := 174) S.1 S.2.1 dX5_advance_167 (by decide) (fun c_48 => ?_) (fun c_48 => absurd c_48 (by decide))
      have lq3 : Int32.toInt (3) = 3 := by decide
      exact b_vret S.1 S.2.1 X.2.1 X.2.2.1 hP hD hS ⟨(3), b1_1, b2_42, tv, (by first | with_reducible assumption | (and_intros <;> first | with_reducible assumption | (intros; refine Int.le_antisymm ?_ ?_ <;> omega) | omega) | assumption | decide | (rw [show Int32.toInt 0 = 0 from rfl]; omega)), (by first | assumption | (intro hq; exact absurd hq (by first | omega | decide))), (by first | exact tok_end (by first | (refine Int.le_antisymm ?_ ?_ <;> omega) | omega) (by first | (refine Int.le_antisymm ?_ ?_ <;> omega) | omega) (by first | rfl | omega) | exact tok_run (by first | (refine Int.le_antisymm ?_ ?_ <;> omega) | omega) (by assumption) (by first | (refine Int.le_antisymm ?_ ?_ <;> omega) | omega) (by first | assumption | omega) (by first | (refine Int.le_antisymm ?_ ?_ <;> omega) | omega) (by first | (refine Int.le_antisymm ?_ ?_ <;> omega) | omega) | exact tok_num (s0 := Int32.toInt 2) (by first | (refine Int.le_antisymm ?_ ?_ <;> omega) | omega) (by assumption) (by first | (refine Int.le_antisymm ?_ ?_ <;> omega) | omega) rfl (by first | assumption | omega) (by first | (refine Int.le_antisymm ?_ ?_ <;> omega) | omega) (by assumption)), rfl⟩ dX5_advance_174
    · have hP : va_P D vwCl [(tp, .inr (5, [.ref by_, .int tz, .int ts, .int b1_1, .int b1_1, .int tv])), (by_, .inl (cI, 400, .inl f))] H := hP
      have hD : va_D A [(tp, .inr (5, [.ref by_, .int tz, .int ts, .int b1_1, .int b1_1, .int tv])), (by_, .inl (cI, 400, .inl f))] := hD
      refine b_put (v := .int 4) S iX5 tyX5 tyX5_ok nmX5 hK hP hD hS 0 rfl rfl 2 (by decide) (by decide +kernel) rfl rfl rfl (Nat.le_of_ble_eq_true rfl) dX5_advance_90 (fun H locs hP hD hS => ?_)
      have hP : va_P D vwCl [(tp, .inr (5, [.ref by_, .int tz, .int 4, .int b1_1, .int b1_1, .int tv])), (by_, .inl (cI, 400, .inl f))] H := hP
      have hD : va_D A [(tp, .inr (5, [.ref by_, .int tz, .int 4, .int b1_1, .int b1_1, .int tv])), (by_, .inl (cI, 400, .inl f))] := hD
      refine lv_aload_n S.1 S.2.1 dX5_advance_93 rfl (lv_at hl 0 rfl) ?_
      refine lv_dup S.1 S.2.1 dX5_advance_94 rfl ?_
      refine b_get (v := .int b1_1) S iX5 hK hP 0 rfl rfl 4 (by decide) (by decide +kernel) rfl dX5_advance_95 ?_
      refine lv_iconst (v := (1)) S.1 S.2.1 dX5_advance_98 (by decide) ?_
      refine lv_iadd S.1 S.2.1 dX5_advance_99 ?_
      refine lv_topi (fun x_49 ex_49 => ?_)
      have tx_49 : x_49.toInt = b1_1.toInt + (1) := addI (A := b1_1.toInt) (B := 1) ex_49 rfl rfl (by  omega) (by  omega)
      refine b_put (v := .int x_49) S iX5 tyX5 tyX5_ok nmX5 hK hP hD hS 0 rfl rfl 4 (by decide) (by decide +kernel) rfl rfl rfl (Nat.le_of_ble_eq_true rfl) dX5_advance_100 (fun H locs hP hD hS => ?_)
      have hP : va_P D vwCl [(tp, .inr (5, [.ref by_, .int tz, .int 4, .int b1_1, .int x_49, .int tv])), (by_, .inl (cI, 400, .inl f))] H := hP
      have hD : va_D A [(tp, .inr (5, [.ref by_, .int tz, .int 4, .int b1_1, .int x_49, .int tv])), (by_, .inl (cI, 400, .inl f))] := hD
      refine lp_advance2_0 l D cI cZ cC cS sq tp by_ tz ts ta tv f hrg_f hz ((4)) b1_1 (by first | with_reducible assumption | (and_intros <;> first | with_reducible assumption | (intros; refine Int.le_antisymm ?_ ?_ <;> omega) | omega) | assumption | decide | (rw [show Int32.toInt 0 = 0 from rfl]; omega)) X hK hT hA (fun b2_50 hi_51 hi_52 hi_53 hi_54 hi_55 H locs ls hP hD hS hl => ?_) _ x_49 (by first | with_reducible assumption | assumption | omega | decide | (rw [show Int32.toInt 0 = 0 from rfl]; omega)) (by first | with_reducible assumption | (and_intros <;> first | with_reducible assumption | (intros; refine Int.le_antisymm ?_ ?_ <;> omega) | omega) | assumption | decide | (rw [show Int32.toInt 0 = 0 from rfl]; omega)) (by first | (intro hq; exact absurd hq (by first | omega | decide)) | (intro _; exact dgs_ext (i := b1_1) (b := b1_1.toInt) (fun j h1 h2 => absurd h2 (by first | (refine Int.le_antisymm ?_ ?_ <;> omega) | omega)) (by first | (refine Int.le_antisymm ?_ ?_ <;> omega) | omega) rfl (by first | (refine Int.le_antisymm ?_ ?_ <;> omega) | omega) (by assumption) (by assumption))) (congrArg (ee _ _) (by first | (refine Int.le_antisymm ?_ ?_ <;> omega) | omega)) (Nat.lt_succ_self _) H _ ls hP hD hS (lv_sub hl [0] rfl)
      refine lv_aload_n S.1 S.2.1 dX5_advance_162 rfl (lv_at hl 0 rfl) ?_
      refine b_get (v := .int 4) S iX5 hK hP 0 rfl rfl 2 (by decide) (by decide +kernel) rfl dX5_advance_163 ?_
      refine lv_iconst (v := (2)) S.1 S.2.1 dX5_advance_166 (by decide) ?_
      refine lv_icmp_ne (tgt := 174) S.1 S.2.1 dX5_advance_167 (by decide) (fun c_56 => ?_) (fun c_56 => absurd c_56 (by decide))
      have lq4 : Int32.toInt (4) = 4 := by decide
      exact b_vret S.1 S.2.1 X.2.1 X.2.2.1 hP hD hS ⟨(4), b1_1, b2_50, tv, (by first | with_reducible assumption | (and_intros <;> first | with_reducible assumption | (intros; refine Int.le_antisymm ?_ ?_ <;> omega) | omega) | assumption | decide | (rw [show Int32.toInt 0 = 0 from rfl]; omega)), (by first | assumption | (intro hq; exact absurd hq (by first | omega | decide))), (by first | exact tok_end (by first | (refine Int.le_antisymm ?_ ?_ <;> omega) | omega) (by first | (refine Int.le_antisymm ?_ ?_ <;> omega) | omega) (by first | rfl | omega) | exact tok_run (by first | (refine Int.le_antisymm ?_ ?_ <;> omega) | omega) (by assumption) (by first | (refine Int.le_antisymm ?_ ?_ <;> omega) | omega) (by first | assumption | omega) (by first | (refine Int.le_antisymm ?_ ?_ <;> omega) | omega) (by first | (refine Int.le_antisymm ?_ ?_ <;> omega) | omega) | exact tok_num (s0 := Int32.toInt 2) (by first | (refine Int.le_antisymm ?_ ?_ <;> omega) | omega) (by assumption) (by first | (refine Int.le_antisymm ?_ ?_ <;> omega) | omega) rfl (by first | assumption | omega) (by first | (refine Int.le_antisymm ?_ ?_ <;> omega) | omega) (by assumption)), rfl⟩ dX5_advance_174
  · rw [lt2 (a := b1_1) (b := tz) (A := b1_1.toInt) (B := tz.toInt) rfl rfl] at c_6
    refine lv_aload_n S.1 S.2.1 dX5_advance_71 rfl (lv_at hl 0 rfl) ?_
    refine lv_iconst (v := (0)) S.1 S.2.1 dX5_advance_72 (by decide) ?_
    refine b_put (v := .int 0) S iX5 tyX5 tyX5_ok nmX5 hK hP hD hS 0 rfl rfl 2 (by decide) (by decide +kernel) rfl rfl rfl (Nat.le_of_ble_eq_true rfl) dX5_advance_73 (fun H locs hP hD hS => ?_)
    have hP : va_P D vwCl [(tp, .inr (5, [.ref by_, .int tz, .int 0, .int b1_1, .int b1_1, .int tv])), (by_, .inl (cI, 400, .inl f))] H := hP
    have hD : va_D A [(tp, .inr (5, [.ref by_, .int tz, .int 0, .int b1_1, .int b1_1, .int tv])), (by_, .inl (cI, 400, .inl f))] := hD
    have lq0 : Int32.toInt (0) = 0 := by decide
    exact b_vret S.1 S.2.1 X.2.1 X.2.2.1 hP hD hS ⟨(0), b1_1, b1_1, tv, (by first | with_reducible assumption | (and_intros <;> first | with_reducible assumption | (intros; refine Int.le_antisymm ?_ ?_ <;> omega) | omega) | assumption | decide | (rw [show Int32.toInt 0 = 0 from rfl]; omega)), (by first | assumption | (intro hq; exact absurd hq (by first | omega | decide))), (by first | exact tok_end (by first | (refine Int.le_antisymm ?_ ?_ <;> omega) | omega) (by first | (refine Int.le_antisymm ?_ ?_ <;> omega) | omega) (by first | rfl | omega) | exact tok_run (by first | (refine Int.le_antisymm ?_ ?_ <;> omega) | omega) (by assumption) (by first | (refine Int.le_antisymm ?_ ?_ <;> omega) | omega) (by first | assumption | omega) (by first | (refine Int.le_antisymm ?_ ?_ <;> omega) | omega) (by first | (refine Int.le_antisymm ?_ ?_ <;> omega) | omega) | exact tok_num (s0 := Int32.toInt 2) (by first | (refine Int.le_antisymm ?_ ?_ <;> omega) | omega) (by assumption) (by first | (refine Int.le_antisymm ?_ ?_ <;> omega) | omega) rfl (by first | assumption | omega) (by first | (refine Int.le_antisymm ?_ ?_ <;> omega) | omega) (by assumption)), rfl⟩ dX5_advance_76
set_option maxHeartbeats 4000000 in
set_option maxRecDepth 100000 in
theorem s_X5_rewind (l : Launch) (D : va_G) (cI cZ cC cS : ClassId) (sq : Nat → Nat) (sz : Nat) (tp : Nat) (by_ : Nat) (tz : Int32) (ts : Int32) (ta : Int32) (tb : Int32) (tv : Int32) (f : Nat → Int32) (hrg_f : rng f 400 (0) (255)) (hz : 0 ≤ tz.toInt ∧ tz.toInt ≤ 400) : mV l yX5_rewind wsX5_rewind 2 80 0 0 D (tyW cI cZ cC cS) sq [(tp, .inr (5, [.ref by_, .int tz, .int ts, .int ta, .int tb, .int tv])), (by_, .inl (cI, 400, .inl f))] sz [.ref tp] (fun w => (∃ (ts2 : Int32), ∃ (ta2 : Int32), ∃ (tb2 : Int32), ∃ (tv2 : Int32), (0 ≤ ta2.toInt ∧ ta2.toInt ≤ tb2.toInt ∧ tb2.toInt ≤ tz.toInt) ∧ (ts2.toInt = 2 → 0 ≤ tv2.toInt ∧ tv2.toInt ≤ 999) ∧ (tok (tx f tz.toInt) (tS (tx f tz.toInt) 0) ts2.toInt ta2.toInt tb2.toInt tv2.toInt) ∧ w = [(tp, .inr (5, [.ref by_, .int tz, .int ts2, .int ta2, .int tb2, .int tv2])), (by_, .inl (cI, 400, .inl f))])) := by
  refine b_metV (cc := cX5_rewind) (maxL := 1) (ret := none) (by decide) rfl (Nat.le_of_ble_eq_true rfl) ?_
  intro p e s m below meth c ls A H X hsz hP hK hT hD hA hS hl
  have S : CallFix p m c cX5_rewind 1 s ([.ref tp] : List Value).toArray wsX5_rewind RX5 := X.1
  have hl : lv_has ls 1 [(0, .ref tp)] := hl
  have iX5 := jX5_rewind_X5
  refine lv_aload_n S.1 S.2.1 dX5_rewind_0 rfl (lv_at hl 0 rfl) ?_
  refine lv_iconst (v := (0)) S.1 S.2.1 dX5_rewind_1 (by decide) ?_
  refine b_put (v := .int 0) S iX5 tyX5 tyX5_ok nmX5 hK hP hD hS 0 rfl rfl 4 (by decide) (by decide +kernel) rfl rfl rfl (Nat.le_of_ble_eq_true rfl) dX5_rewind_2 (fun H locs hP hD hS => ?_)
  have hP : va_P D vwCl [(tp, .inr (5, [.ref by_, .int tz, .int ts, .int ta, .int 0, .int tv])), (by_, .inl (cI, 400, .inl f))] H := hP
  have hD : va_D A [(tp, .inr (5, [.ref by_, .int tz, .int ts, .int ta, .int 0, .int tv])), (by_, .inl (cI, 400, .inl f))] := hD
  refine lv_aload_n S.1 S.2.1 dX5_rewind_5 rfl (lv_at hl 0 rfl) ?_
  refine b_av (wr := []) (b_runV (q0 := 0) (ci := 5) (As := []) (s_X5_advance_0 l D cI cZ cC cS sq H.size tp by_ tz ts ta tv f (by first | with_reducible assumption | assumption | omega | decide | (rw [show Int32.toInt 0 = 0 from rfl]; omega)) (by first | with_reducible assumption | (and_intros <;> first | with_reducible assumption | (intros; refine Int.le_antisymm ?_ ?_ <;> omega) | omega) | assumption | decide | (rw [show Int32.toInt 0 = 0 from rfl]; omega))) S gX5_rewind_X5_advance rfl hdV_X5_advance ⟨Nat.le_of_ble_eq_true rfl, Nat.le_of_ble_eq_true rfl⟩ ⟨Nat.le_of_ble_eq_true rfl, Nat.le_of_ble_eq_true rfl⟩ hK hT hS hA hP hD rfl rfl [0, 1] rfl (by decide) rfl hl.1 rfl (Nat.le_of_ble_eq_true rfl) dX5_rewind_6) hP hD hS hA [0, 1] [] rfl rfl (by decide) (by decide) (fun w_2 H locs hw_3 hP hD hS => ?_)
  obtain ⟨ts2_4, ta2_5, tb2_6, tv2_7, hf_8, hf_9, hf_10, rfl⟩ := hw_3
  have hP : va_P D vwCl [(tp, .inr (5, [.ref by_, .int tz, .int ts2_4, .int ta2_5, .int tb2_6, .int tv2_7])), (by_, .inl (cI, 400, .inl f))] H := hP
  have hD : va_D A [(tp, .inr (5, [.ref by_, .int tz, .int ts2_4, .int ta2_5, .int tb2_6, .int tv2_7])), (by_, .inl (cI, 400, .inl f))] := hD
  exact b_vret S.1 S.2.1 X.2.1 X.2.2.1 hP hD hS ⟨ts2_4, ta2_5, tb2_6, tv2_7, (by first | with_reducible assumption | (and_intros <;> first | with_reducible assumption | (intros; refine Int.le_antisymm ?_ ?_ <;> omega) | omega) | assumption | decide | (rw [show Int32.toInt 0 = 0 from rfl]; omega)), (by first | with_reducible assumption | (and_intros <;> first | with_reducible assumption | (intros; refine Int.le_antisymm ?_ ?_ <;> omega) | omega) | assumption | decide | (rw [show Int32.toInt 0 = 0 from rfl]; omega)), (by first | with_reducible assumption | assumption | omega | decide | (rw [show Int32.toInt 0 = 0 from rfl]; omega)), rfl⟩ dX5_rewind_9
