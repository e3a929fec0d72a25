set_option maxRecDepth 20000 in
theorem ggX1_clear_J7_fill_53178 : GoodIn wsX1_clear wsJ7_fill_53178 := goodIn_r _ [12] (by first | exact rfl | decide +kernel) (by decide +kernel)
set_option maxRecDepth 20000 in
theorem gX1_clear_J7_fill_53178 : GoodIn wsX1_clear (va_wsS RX1 49 yJ7_fill_53178 wsJ7_fill_53178) := goodIn_app (goodIn_r _ [9, 10, 11] (by first | exact rfl | decide +kernel) (by decide +kernel)) ggX1_clear_J7_fill_53178
set_option maxRecDepth 20000 in
theorem ggX1_fronts_X1_ownerOf : GoodIn wsX1_fronts wsX1_ownerOf := goodIn_r _ [5, 6, 7, 8, 9, 4, 10, 11, 12, 13, 14, 15, 16, 17, 18, 19, 20, 21, 22, 23, 24] (by first | exact rfl | decide +kernel) (by decide +kernel)
set_option maxRecDepth 20000 in
theorem gX1_fronts_X1_ownerOf : GoodIn wsX1_fronts (wsV RX1 65 RX1 yX1_ownerOf wsX1_ownerOf) := goodIn_app (goodIn_r _ [1, 2, 3, 4] (by first | exact rfl | decide +kernel) (by decide +kernel)) ggX1_fronts_X1_ownerOf
set_option maxRecDepth 20000 in
theorem ggX1_hasFront_X1_ownerOf : GoodIn wsX1_hasFront wsX1_ownerOf := goodIn_r _ [5, 6, 7, 8, 9, 4, 10, 11, 12, 13, 14, 15, 16, 17, 18, 19, 20, 21, 22, 23, 24] (by first | exact rfl | decide +kernel) (by decide +kernel)
set_option maxRecDepth 20000 in
theorem gX1_hasFront_X1_ownerOf : GoodIn wsX1_hasFront (wsV RX1 65 RX1 yX1_ownerOf wsX1_ownerOf) := goodIn_app (goodIn_r _ [1, 2, 3, 4] (by first | exact rfl | decide +kernel) (by decide +kernel)) ggX1_hasFront_X1_ownerOf
set_option maxRecDepth 20000 in
theorem ggX1_mirrors_X1_isMirror : GoodIn wsX1_mirrors wsX1_isMirror := goodIn_r _ [5, 6, 7, 8, 9, 4, 10, 11, 12, 13, 14, 15, 16, 17, 18, 19, 20, 21, 22, 23, 24] (by first | exact rfl | decide +kernel) (by decide +kernel)
set_option maxRecDepth 20000 in
theorem gX1_mirrors_X1_isMirror : GoodIn wsX1_mirrors (wsV RX1 82 RX1 yX1_isMirror wsX1_isMirror) := goodIn_app (goodIn_r _ [1, 2, 3, 4] (by first | exact rfl | decide +kernel) (by decide +kernel)) ggX1_mirrors_X1_isMirror
set_option maxRecDepth 20000 in
theorem ggX1_openBeside_X1_beside : GoodIn wsX1_openBeside wsX1_beside := goodIn_r _ [5, 6, 7, 17, 18, 19, 20, 21, 22, 23, 24, 25, 26, 27, 28] (by first | exact rfl | decide +kernel) (by decide +kernel)
set_option maxRecDepth 20000 in
theorem gX1_openBeside_X1_beside : GoodIn wsX1_openBeside (wsV RX1 75 RX1 yX1_beside wsX1_beside) := goodIn_app (goodIn_r _ [1, 2, 3, 4] (by first | exact rfl | decide +kernel) (by decide +kernel)) ggX1_openBeside_X1_beside
set_option maxRecDepth 20000 in
theorem ggX1_openBeside_X1_isOpen : GoodIn wsX1_openBeside wsX1_isOpen := goodIn_r _ [11, 12, 13, 14, 15, 4, 16, 6, 7, 17, 18, 19, 20, 21, 22, 23, 24, 25, 26, 27, 28] (by first | exact rfl | decide +kernel) (by decide +kernel)
set_option maxRecDepth 20000 in
theorem gX1_openBeside_X1_isOpen : GoodIn wsX1_openBeside (wsV RX1 79 RX1 yX1_isOpen wsX1_isOpen) := goodIn_app (goodIn_r _ [8, 9, 10, 4] (by first | exact rfl | decide +kernel) (by decide +kernel)) ggX1_openBeside_X1_isOpen
set_option maxRecDepth 20000 in
theorem gdX1_beside_0 : decode cX1_beside 0 = .ok (.iload_n 1, 1) ∧ decode cX1_beside 1 = .ok (.bipush 10, 2) ∧ decode cX1_beside 3 = .ok (.irem, 1) ∧ decode cX1_beside 4 = .ok (.getstatic 69, 3) ∧ decode cX1_beside 7 = .ok (.iload_n 2, 1) ∧ decode cX1_beside 8 = .ok (.iaload, 1) ∧ decode cX1_beside 9 = .ok (.iadd, 1) ∧ decode cX1_beside 10 = .ok (.istore_n 3, 1) := by decide +kernel
theorem dX1_beside_0 : decode cX1_beside 0 = .ok (.iload_n 1, 1) := gdX1_beside_0.1
theorem dX1_beside_1 : decode cX1_beside 1 = .ok (.bipush 10, 2) := gdX1_beside_0.2.1
theorem dX1_beside_3 : decode cX1_beside 3 = .ok (.irem, 1) := gdX1_beside_0.2.2.1
theorem dX1_beside_4 : decode cX1_beside 4 = .ok (.getstatic 69, 3) := gdX1_beside_0.2.2.2.1
theorem dX1_beside_7 : decode cX1_beside 7 = .ok (.iload_n 2, 1) := gdX1_beside_0.2.2.2.2.1
theorem dX1_beside_8 : decode cX1_beside 8 = .ok (.iaload, 1) := gdX1_beside_0.2.2.2.2.2.1
theorem dX1_beside_9 : decode cX1_beside 9 = .ok (.iadd, 1) := gdX1_beside_0.2.2.2.2.2.2.1
theorem dX1_beside_10 : decode cX1_beside 10 = .ok (.istore_n 3, 1) := gdX1_beside_0.2.2.2.2.2.2.2
set_option maxRecDepth 20000 in
theorem gdX1_beside_11 : decode cX1_beside 11 = .ok (.iload_n 1, 1) ∧ decode cX1_beside 12 = .ok (.bipush 10, 2) ∧ decode cX1_beside 14 = .ok (.idiv, 1) ∧ decode cX1_beside 15 = .ok (.getstatic 72, 3) ∧ decode cX1_beside 18 = .ok (.iload_n 2, 1) ∧ decode cX1_beside 19 = .ok (.iaload, 1) ∧ decode cX1_beside 20 = .ok (.iadd, 1) ∧ decode cX1_beside 21 = .ok (.istore 4, 2) := by decide +kernel
theorem dX1_beside_11 : decode cX1_beside 11 = .ok (.iload_n 1, 1) := gdX1_beside_11.1
theorem dX1_beside_12 : decode cX1_beside 12 = .ok (.bipush 10, 2) := gdX1_beside_11.2.1
theorem dX1_beside_14 : decode cX1_beside 14 = .ok (.idiv, 1) := gdX1_beside_11.2.2.1
theorem dX1_beside_15 : decode cX1_beside 15 = .ok (.getstatic 72, 3) := gdX1_beside_11.2.2.2.1
theorem dX1_beside_18 : decode cX1_beside 18 = .ok (.iload_n 2, 1) := gdX1_beside_11.2.2.2.2.1
theorem dX1_beside_19 : decode cX1_beside 19 = .ok (.iaload, 1) := gdX1_beside_11.2.2.2.2.2.1
theorem dX1_beside_20 : decode cX1_beside 20 = .ok (.iadd, 1) := gdX1_beside_11.2.2.2.2.2.2.1
theorem dX1_beside_21 : decode cX1_beside 21 = .ok (.istore 4, 2) := gdX1_beside_11.2.2.2.2.2.2.2
set_option maxRecDepth 20000 in
theorem gdX1_beside_23 : decode cX1_beside 23 = .ok (.iload_n 3, 1) ∧ decode cX1_beside 24 = .ok (.ifCond .lt 35, 3) ∧ decode cX1_beside 27 = .ok (.iload_n 3, 1) ∧ decode cX1_beside 28 = .ok (.aload_n 0, 1) ∧ decode cX1_beside 29 = .ok (.getfield 9, 3) ∧ decode cX1_beside 32 = .ok (.if_icmp .ge 27, 3) ∧ decode cX1_beside 35 = .ok (.iload 4, 2) ∧ decode cX1_beside 37 = .ok (.ifCond .lt 22, 3) := by decide +kernel
theorem dX1_beside_23 : decode cX1_beside 23 = .ok (.iload_n 3, 1) := gdX1_beside_23.1
theorem dX1_beside_24 : decode cX1_beside 24 = .ok (.ifCond .lt 35, 3) := gdX1_beside_23.2.1
theorem dX1_beside_27 : decode cX1_beside 27 = .ok (.iload_n 3, 1) := gdX1_beside_23.2.2.1
theorem dX1_beside_28 : decode cX1_beside 28 = .ok (.aload_n 0, 1) := gdX1_beside_23.2.2.2.1
theorem dX1_beside_29 : decode cX1_beside 29 = .ok (.getfield 9, 3) := gdX1_beside_23.2.2.2.2.1
theorem dX1_beside_32 : decode cX1_beside 32 = .ok (.if_icmp .ge 27, 3) := gdX1_beside_23.2.2.2.2.2.1
theorem dX1_beside_35 : decode cX1_beside 35 = .ok (.iload 4, 2) := gdX1_beside_23.2.2.2.2.2.2.1
theorem dX1_beside_37 : decode cX1_beside 37 = .ok (.ifCond .lt 22, 3) := gdX1_beside_23.2.2.2.2.2.2.2
set_option maxRecDepth 20000 in
theorem gdX1_beside_40 : decode cX1_beside 40 = .ok (.iload 4, 2) ∧ decode cX1_beside 42 = .ok (.aload_n 0, 1) ∧ decode cX1_beside 43 = .ok (.getfield 15, 3) ∧ decode cX1_beside 46 = .ok (.if_icmp .ge 13, 3) ∧ decode cX1_beside 49 = .ok (.iload_n 3, 1) ∧ decode cX1_beside 50 = .ok (.bipush 10, 2) ∧ decode cX1_beside 52 = .ok (.iload 4, 2) ∧ decode cX1_beside 54 = .ok (.imul, 1) := by decide +kernel
theorem dX1_beside_40 : decode cX1_beside 40 = .ok (.iload 4, 2) := gdX1_beside_40.1
theorem dX1_beside_42 : decode cX1_beside 42 = .ok (.aload_n 0, 1) := gdX1_beside_40.2.1
theorem dX1_beside_43 : decode cX1_beside 43 = .ok (.getfield 15, 3) := gdX1_beside_40.2.2.1
theorem dX1_beside_46 : decode cX1_beside 46 = .ok (.if_icmp .ge 13, 3) := gdX1_beside_40.2.2.2.1
theorem dX1_beside_49 : decode cX1_beside 49 = .ok (.iload_n 3, 1) := gdX1_beside_40.2.2.2.2.1
theorem dX1_beside_50 : decode cX1_beside 50 = .ok (.bipush 10, 2) := gdX1_beside_40.2.2.2.2.2.1
theorem dX1_beside_52 : decode cX1_beside 52 = .ok (.iload 4, 2) := gdX1_beside_40.2.2.2.2.2.2.1
theorem dX1_beside_54 : decode cX1_beside 54 = .ok (.imul, 1) := gdX1_beside_40.2.2.2.2.2.2.2
set_option maxRecDepth 20000 in
theorem gdX1_beside_55 : decode cX1_beside 55 = .ok (.iadd, 1) ∧ decode cX1_beside 56 = .ok (.goto 4, 3) ∧ decode cX1_beside 59 = .ok (.iconst (-1), 1) ∧ decode cX1_beside 60 = .ok (.ireturn, 1) := by decide +kernel
theorem dX1_beside_55 : decode cX1_beside 55 = .ok (.iadd, 1) := gdX1_beside_55.1
theorem dX1_beside_56 : decode cX1_beside 56 = .ok (.goto 4, 3) := gdX1_beside_55.2.1
theorem dX1_beside_59 : decode cX1_beside 59 = .ok (.iconst (-1), 1) := gdX1_beside_55.2.2.1
theorem dX1_beside_60 : decode cX1_beside 60 = .ok (.ireturn, 1) := gdX1_beside_55.2.2.2
set_option maxRecDepth 20000 in
theorem gdX1_clear_0 : decode cX1_clear 0 = .ok (.aload_n 0, 1) ∧ decode cX1_clear 1 = .ok (.iconst 0, 1) ∧ decode cX1_clear 2 = .ok (.putfield 9, 3) ∧ decode cX1_clear 5 = .ok (.aload_n 0, 1) ∧ decode cX1_clear 6 = .ok (.iconst 0, 1) ∧ decode cX1_clear 7 = .ok (.putfield 15, 3) ∧ decode cX1_clear 10 = .ok (.aload_n 0, 1) ∧ decode cX1_clear 11 = .ok (.iconst 0, 1) := by decide +kernel
theorem dX1_clear_0 : decode cX1_clear 0 = .ok (.aload_n 0, 1) := gdX1_clear_0.1
theorem dX1_clear_1 : decode cX1_clear 1 = .ok (.iconst 0, 1) := gdX1_clear_0.2.1
theorem dX1_clear_2 : decode cX1_clear 2 = .ok (.putfield 9, 3) := gdX1_clear_0.2.2.1
theorem dX1_clear_5 : decode cX1_clear 5 = .ok (.aload_n 0, 1) := gdX1_clear_0.2.2.2.1
theorem dX1_clear_6 : decode cX1_clear 6 = .ok (.iconst 0, 1) := gdX1_clear_0.2.2.2.2.1
theorem dX1_clear_7 : decode cX1_clear 7 = .ok (.putfield 15, 3) := gdX1_clear_0.2.2.2.2.2.1
theorem dX1_clear_10 : decode cX1_clear 10 = .ok (.aload_n 0, 1) := gdX1_clear_0.2.2.2.2.2.2.1
theorem dX1_clear_11 : decode cX1_clear 11 = .ok (.iconst 0, 1) := gdX1_clear_0.2.2.2.2.2.2.2
set_option maxRecDepth 20000 in
theorem gdX1_clear_12 : decode cX1_clear 12 = .ok (.putfield 18, 3) ∧ decode cX1_clear 15 = .ok (.aload_n 0, 1) ∧ decode cX1_clear 16 = .ok (.getfield 25, 3) ∧ decode cX1_clear 19 = .ok (.iconst 0, 1) ∧ decode cX1_clear 20 = .ok (.invokestatic 49, 3) ∧ decode cX1_clear 23 = .ok (.aload_n 0, 1) ∧ decode cX1_clear 24 = .ok (.getfield 28, 3) ∧ decode cX1_clear 27 = .ok (.iconst 0, 1) := by decide +kernel
theorem dX1_clear_12 : decode cX1_clear 12 = .ok (.putfield 18, 3) := gdX1_clear_12.1
theorem dX1_clear_15 : decode cX1_clear 15 = .ok (.aload_n 0, 1) := gdX1_clear_12.2.1
theorem dX1_clear_16 : decode cX1_clear 16 = .ok (.getfield 25, 3) := gdX1_clear_12.2.2.1
theorem dX1_clear_19 : decode cX1_clear 19 = .ok (.iconst 0, 1) := gdX1_clear_12.2.2.2.1
theorem dX1_clear_20 : decode cX1_clear 20 = .ok (.invokestatic 49, 3) := gdX1_clear_12.2.2.2.2.1
theorem dX1_clear_23 : decode cX1_clear 23 = .ok (.aload_n 0, 1) := gdX1_clear_12.2.2.2.2.2.1
theorem dX1_clear_24 : decode cX1_clear 24 = .ok (.getfield 28, 3) := gdX1_clear_12.2.2.2.2.2.2.1
theorem dX1_clear_27 : decode cX1_clear 27 = .ok (.iconst 0, 1) := gdX1_clear_12.2.2.2.2.2.2.2
set_option maxRecDepth 20000 in
theorem gdX1_clear_28 : decode cX1_clear 28 = .ok (.invokestatic 49, 3) ∧ decode cX1_clear 31 = .ok (.aload_n 0, 1) ∧ decode cX1_clear 32 = .ok (.getfield 40, 3) ∧ decode cX1_clear 35 = .ok (.iconst 0, 1) ∧ decode cX1_clear 36 = .ok (.invokestatic 49, 3) ∧ decode cX1_clear 39 = .ok (.aload_n 0, 1) ∧ decode cX1_clear 40 = .ok (.getfield 43, 3) ∧ decode cX1_clear 43 = .ok (.iconst 0, 1) := by decide +kernel
theorem dX1_clear_28 : decode cX1_clear 28 = .ok (.invokestatic 49, 3) := gdX1_clear_28.1
theorem dX1_clear_31 : decode cX1_clear 31 = .ok (.aload_n 0, 1) := gdX1_clear_28.2.1
theorem dX1_clear_32 : decode cX1_clear 32 = .ok (.getfield 40, 3) := gdX1_clear_28.2.2.1
theorem dX1_clear_35 : decode cX1_clear 35 = .ok (.iconst 0, 1) := gdX1_clear_28.2.2.2.1
theorem dX1_clear_36 : decode cX1_clear 36 = .ok (.invokestatic 49, 3) := gdX1_clear_28.2.2.2.2.1
theorem dX1_clear_39 : decode cX1_clear 39 = .ok (.aload_n 0, 1) := gdX1_clear_28.2.2.2.2.2.1
theorem dX1_clear_40 : decode cX1_clear 40 = .ok (.getfield 43, 3) := gdX1_clear_28.2.2.2.2.2.2.1
theorem dX1_clear_43 : decode cX1_clear 43 = .ok (.iconst 0, 1) := gdX1_clear_28.2.2.2.2.2.2.2
set_option maxRecDepth 20000 in
theorem gdX1_clear_44 : decode cX1_clear 44 = .ok (.invokestatic 49, 3) ∧ decode cX1_clear 47 = .ok (.aload_n 0, 1) ∧ decode cX1_clear 48 = .ok (.getfield 46, 3) ∧ decode cX1_clear 51 = .ok (.iconst 0, 1) ∧ decode cX1_clear 52 = .ok (.invokestatic 49, 3) ∧ decode cX1_clear 55 = .ok (.return_, 1) := by decide +kernel
theorem dX1_clear_44 : decode cX1_clear 44 = .ok (.invokestatic 49, 3) := gdX1_clear_44.1
theorem dX1_clear_47 : decode cX1_clear 47 = .ok (.aload_n 0, 1) := gdX1_clear_44.2.1
theorem dX1_clear_48 : decode cX1_clear 48 = .ok (.getfield 46, 3) := gdX1_clear_44.2.2.1
theorem dX1_clear_51 : decode cX1_clear 51 = .ok (.iconst 0, 1) := gdX1_clear_44.2.2.2.1
theorem dX1_clear_52 : decode cX1_clear 52 = .ok (.invokestatic 49, 3) := gdX1_clear_44.2.2.2.2.1
theorem dX1_clear_55 : decode cX1_clear 55 = .ok (.return_, 1) := gdX1_clear_44.2.2.2.2.2
set_option maxRecDepth 20000 in
theorem gdX1_fronts_0 : decode cX1_fronts 0 = .ok (.iconst 0, 1) ∧ decode cX1_fronts 1 = .ok (.istore_n 1, 1) ∧ decode cX1_fronts 2 = .ok (.iconst 0, 1) ∧ decode cX1_fronts 3 = .ok (.istore_n 2, 1) ∧ decode cX1_fronts 4 = .ok (.iload_n 2, 1) ∧ decode cX1_fronts 5 = .ok (.bipush 80, 2) ∧ decode cX1_fronts 7 = .ok (.if_icmp .ge 22, 3) ∧ decode cX1_fronts 10 = .ok (.aload_n 0, 1) := by decide +kernel
theorem dX1_fronts_0 : decode cX1_fronts 0 = .ok (.iconst 0, 1) := gdX1_fronts_0.1
theorem dX1_fronts_1 : decode cX1_fronts 1 = .ok (.istore_n 1, 1) := gdX1_fronts_0.2.1
theorem dX1_fronts_2 : decode cX1_fronts 2 = .ok (.iconst 0, 1) := gdX1_fronts_0.2.2.1
theorem dX1_fronts_3 : decode cX1_fronts 3 = .ok (.istore_n 2, 1) := gdX1_fronts_0.2.2.2.1
theorem dX1_fronts_4 : decode cX1_fronts 4 = .ok (.iload_n 2, 1) := gdX1_fronts_0.2.2.2.2.1
theorem dX1_fronts_5 : decode cX1_fronts 5 = .ok (.bipush 80, 2) := gdX1_fronts_0.2.2.2.2.2.1
theorem dX1_fronts_7 : decode cX1_fronts 7 = .ok (.if_icmp .ge 22, 3) := gdX1_fronts_0.2.2.2.2.2.2.1
theorem dX1_fronts_10 : decode cX1_fronts 10 = .ok (.aload_n 0, 1) := gdX1_fronts_0.2.2.2.2.2.2.2
set_option maxRecDepth 20000 in
theorem gdX1_fronts_11 : decode cX1_fronts 11 = .ok (.iload_n 2, 1) ∧ decode cX1_fronts 12 = .ok (.invokevirtual 65, 3) ∧ decode cX1_fronts 15 = .ok (.bipush 6, 2) ∧ decode cX1_fronts 17 = .ok (.if_icmp .eq 6, 3) ∧ decode cX1_fronts 20 = .ok (.iinc 1 1, 3) ∧ decode cX1_fronts 23 = .ok (.iinc 2 1, 3) ∧ decode cX1_fronts 26 = .ok (.goto (-22), 3) ∧ decode cX1_fronts 29 = .ok (.iload_n 1, 1) := by decide +kernel
theorem dX1_fronts_11 : decode cX1_fronts 11 = .ok (.iload_n 2, 1) := gdX1_fronts_11.1
theorem dX1_fronts_12 : decode cX1_fronts 12 = .ok (.invokevirtual 65, 3) := gdX1_fronts_11.2.1
theorem dX1_fronts_15 : decode cX1_fronts 15 = .ok (.bipush 6, 2) := gdX1_fronts_11.2.2.1
theorem dX1_fronts_17 : decode cX1_fronts 17 = .ok (.if_icmp .eq 6, 3) := gdX1_fronts_11.2.2.2.1
theorem dX1_fronts_20 : decode cX1_fronts 20 = .ok (.iinc 1 1, 3) := gdX1_fronts_11.2.2.2.2.1
theorem dX1_fronts_23 : decode cX1_fronts 23 = .ok (.iinc 2 1, 3) := gdX1_fronts_11.2.2.2.2.2.1
theorem dX1_fronts_26 : decode cX1_fronts 26 = .ok (.goto (-22), 3) := gdX1_fronts_11.2.2.2.2.2.2.1
theorem dX1_fronts_29 : decode cX1_fronts 29 = .ok (.iload_n 1, 1) := gdX1_fronts_11.2.2.2.2.2.2.2
theorem dX1_fronts_30 : decode cX1_fronts 30 = .ok (.ireturn, 1) := by decide +kernel
set_option maxRecDepth 20000 in
theorem gdX1_hasFront_0 : decode cX1_hasFront 0 = .ok (.iconst 0, 1) ∧ decode cX1_hasFront 1 = .ok (.istore_n 2, 1) ∧ decode cX1_hasFront 2 = .ok (.iload_n 2, 1) ∧ decode cX1_hasFront 3 = .ok (.bipush 80, 2) ∧ decode cX1_hasFront 5 = .ok (.if_icmp .ge 20, 3) ∧ decode cX1_hasFront 8 = .ok (.aload_n 0, 1) ∧ decode cX1_hasFront 9 = .ok (.iload_n 2, 1) ∧ decode cX1_hasFront 10 = .ok (.invokevirtual 65, 3) := by decide +kernel
theorem dX1_hasFront_0 : decode cX1_hasFront 0 = .ok (.iconst 0, 1) := gdX1_hasFront_0.1
theorem dX1_hasFront_1 : decode cX1_hasFront 1 = .ok (.istore_n 2, 1) := gdX1_hasFront_0.2.1
theorem dX1_hasFront_2 : decode cX1_hasFront 2 = .ok (.iload_n 2, 1) := gdX1_hasFront_0.2.2.1
theorem dX1_hasFront_3 : decode cX1_hasFront 3 = .ok (.bipush 80, 2) := gdX1_hasFront_0.2.2.2.1
theorem dX1_hasFront_5 : decode cX1_hasFront 5 = .ok (.if_icmp .ge 20, 3) := gdX1_hasFront_0.2.2.2.2.1
theorem dX1_hasFront_8 : decode cX1_hasFront 8 = .ok (.aload_n 0, 1) := gdX1_hasFront_0.2.2.2.2.2.1
theorem dX1_hasFront_9 : decode cX1_hasFront 9 = .ok (.iload_n 2, 1) := gdX1_hasFront_0.2.2.2.2.2.2.1
theorem dX1_hasFront_10 : decode cX1_hasFront 10 = .ok (.invokevirtual 65, 3) := gdX1_hasFront_0.2.2.2.2.2.2.2
set_option maxRecDepth 20000 in
theorem gdX1_hasFront_13 : decode cX1_hasFront 13 = .ok (.iload_n 1, 1) ∧ decode cX1_hasFront 14 = .ok (.if_icmp .ne 5, 3) ∧ decode cX1_hasFront 17 = .ok (.iconst 1, 1) ∧ decode cX1_hasFront 18 = .ok (.ireturn, 1) ∧ decode cX1_hasFront 19 = .ok (.iinc 2 1, 3) ∧ decode cX1_hasFront 22 = .ok (.goto (-20), 3) ∧ decode cX1_hasFront 25 = .ok (.iconst 0, 1) ∧ decode cX1_hasFront 26 = .ok (.ireturn, 1) := by decide +kernel
theorem dX1_hasFront_13 : decode cX1_hasFront 13 = .ok (.iload_n 1, 1) := gdX1_hasFront_13.1
theorem dX1_hasFront_14 : decode cX1_hasFront 14 = .ok (.if_icmp .ne 5, 3) := gdX1_hasFront_13.2.1
theorem dX1_hasFront_17 : decode cX1_hasFront 17 = .ok (.iconst 1, 1) := gdX1_hasFront_13.2.2.1
theorem dX1_hasFront_18 : decode cX1_hasFront 18 = .ok (.ireturn, 1) := gdX1_hasFront_13.2.2.2.1
theorem dX1_hasFront_19 : decode cX1_hasFront 19 = .ok (.iinc 2 1, 3) := gdX1_hasFront_13.2.2.2.2.1
theorem dX1_hasFront_22 : decode cX1_hasFront 22 = .ok (.goto (-20), 3) := gdX1_hasFront_13.2.2.2.2.2.1
theorem dX1_hasFront_25 : decode cX1_hasFront 25 = .ok (.iconst 0, 1) := gdX1_hasFront_13.2.2.2.2.2.2.1
theorem dX1_hasFront_26 : decode cX1_hasFront 26 = .ok (.ireturn, 1) := gdX1_hasFront_13.2.2.2.2.2.2.2
set_option maxRecDepth 20000 in
theorem gdX1_isTaken_0 : decode cX1_isTaken 0 = .ok (.iconst 0, 1) ∧ decode cX1_isTaken 1 = .ok (.istore_n 2, 1) ∧ decode cX1_isTaken 2 = .ok (.iload_n 2, 1) ∧ decode cX1_isTaken 3 = .ok (.aload_n 0, 1) ∧ decode cX1_isTaken 4 = .ok (.getfield 18, 3) ∧ decode cX1_isTaken 7 = .ok (.if_icmp .ge 31, 3) ∧ decode cX1_isTaken 10 = .ok (.aload_n 0, 1) ∧ decode cX1_isTaken 11 = .ok (.getfield 31, 3) := by decide +kernel
theorem dX1_isTaken_0 : decode cX1_isTaken 0 = .ok (.iconst 0, 1) := gdX1_isTaken_0.1
theorem dX1_isTaken_1 : decode cX1_isTaken 1 = .ok (.istore_n 2, 1) := gdX1_isTaken_0.2.1
theorem dX1_isTaken_2 : decode cX1_isTaken 2 = .ok (.iload_n 2, 1) := gdX1_isTaken_0.2.2.1
theorem dX1_isTaken_3 : decode cX1_isTaken 3 = .ok (.aload_n 0, 1) := gdX1_isTaken_0.2.2.2.1
theorem dX1_isTaken_4 : decode cX1_isTaken 4 = .ok (.getfield 18, 3) := gdX1_isTaken_0.2.2.2.2.1
theorem dX1_isTaken_7 : decode cX1_isTaken 7 = .ok (.if_icmp .ge 31, 3) := gdX1_isTaken_0.2.2.2.2.2.1
theorem dX1_isTaken_10 : decode cX1_isTaken 10 = .ok (.aload_n 0, 1) := gdX1_isTaken_0.2.2.2.2.2.2.1
theorem dX1_isTaken_11 : decode cX1_isTaken 11 = .ok (.getfield 31, 3) := gdX1_isTaken_0.2.2.2.2.2.2.2
set_option maxRecDepth 20000 in
theorem gdX1_isTaken_14 : decode cX1_isTaken 14 = .ok (.iload_n 2, 1) ∧ decode cX1_isTaken 15 = .ok (.iaload, 1) ∧ decode cX1_isTaken 16 = .ok (.iload_n 1, 1) ∧ decode cX1_isTaken 17 = .ok (.if_icmp .eq 13, 3) ∧ decode cX1_isTaken 20 = .ok (.aload_n 0, 1) ∧ decode cX1_isTaken 21 = .ok (.getfield 34, 3) ∧ decode cX1_isTaken 24 = .ok (.iload_n 2, 1) ∧ decode cX1_isTaken 25 = .ok (.iaload, 1) := by decide +kernel
theorem dX1_isTaken_14 : decode cX1_isTaken 14 = .ok (.iload_n 2, 1) := gdX1_isTaken_14.1
theorem dX1_isTaken_15 : decode cX1_isTaken 15 = .ok (.iaload, 1) := gdX1_isTaken_14.2.1
theorem dX1_isTaken_16 : decode cX1_isTaken 16 = .ok (.iload_n 1, 1) := gdX1_isTaken_14.2.2.1
theorem dX1_isTaken_17 : decode cX1_isTaken 17 = .ok (.if_icmp .eq 13, 3) := gdX1_isTaken_14.2.2.2.1
theorem dX1_isTaken_20 : decode cX1_isTaken 20 = .ok (.aload_n 0, 1) := gdX1_isTaken_14.2.2.2.2.1
theorem dX1_isTaken_21 : decode cX1_isTaken 21 = .ok (.getfield 34, 3) := gdX1_isTaken_14.2.2.2.2.2.1
theorem dX1_isTaken_24 : decode cX1_isTaken 24 = .ok (.iload_n 2, 1) := gdX1_isTaken_14.2.2.2.2.2.2.1
theorem dX1_isTaken_25 : decode cX1_isTaken 25 = .ok (.iaload, 1) := gdX1_isTaken_14.2.2.2.2.2.2.2
set_option maxRecDepth 20000 in
theorem gdX1_isTaken_26 : decode cX1_isTaken 26 = .ok (.iload_n 1, 1) ∧ decode cX1_isTaken 27 = .ok (.if_icmp .ne 5, 3) ∧ decode cX1_isTaken 30 = .ok (.iconst 1, 1) ∧ decode cX1_isTaken 31 = .ok (.ireturn, 1) ∧ decode cX1_isTaken 32 = .ok (.iinc 2 1, 3) ∧ decode cX1_isTaken 35 = .ok (.goto (-33), 3) ∧ decode cX1_isTaken 38 = .ok (.iconst 0, 1) ∧ decode cX1_isTaken 39 = .ok (.ireturn, 1) := by decide +kernel
theorem dX1_isTaken_26 : decode cX1_isTaken 26 = .ok (.iload_n 1, 1) := gdX1_isTaken_26.1
theorem dX1_isTaken_27 : decode cX1_isTaken 27 = .ok (.if_icmp .ne 5, 3) := gdX1_isTaken_26.2.1
theorem dX1_isTaken_30 : decode cX1_isTaken 30 = .ok (.iconst 1, 1) := gdX1_isTaken_26.2.2.1
theorem dX1_isTaken_31 : decode cX1_isTaken 31 = .ok (.ireturn, 1) := gdX1_isTaken_26.2.2.2.1
theorem dX1_isTaken_32 : decode cX1_isTaken 32 = .ok (.iinc 2 1, 3) := gdX1_isTaken_26.2.2.2.2.1
theorem dX1_isTaken_35 : decode cX1_isTaken 35 = .ok (.goto (-33), 3) := gdX1_isTaken_26.2.2.2.2.2.1
theorem dX1_isTaken_38 : decode cX1_isTaken 38 = .ok (.iconst 0, 1) := gdX1_isTaken_26.2.2.2.2.2.2.1
theorem dX1_isTaken_39 : decode cX1_isTaken 39 = .ok (.ireturn, 1) := gdX1_isTaken_26.2.2.2.2.2.2.2
set_option maxRecDepth 20000 in
theorem gdX1_mirrors_0 : decode cX1_mirrors 0 = .ok (.iconst 0, 1) ∧ decode cX1_mirrors 1 = .ok (.istore_n 1, 1) ∧ decode cX1_mirrors 2 = .ok (.iconst 0, 1) ∧ decode cX1_mirrors 3 = .ok (.istore_n 2, 1) ∧ decode cX1_mirrors 4 = .ok (.iload_n 2, 1) ∧ decode cX1_mirrors 5 = .ok (.bipush 80, 2) ∧ decode cX1_mirrors 7 = .ok (.if_icmp .ge 20, 3) ∧ decode cX1_mirrors 10 = .ok (.aload_n 0, 1) := by decide +kernel
theorem dX1_mirrors_0 : decode cX1_mirrors 0 = .ok (.iconst 0, 1) := gdX1_mirrors_0.1
theorem dX1_mirrors_1 : decode cX1_mirrors 1 = .ok (.istore_n 1, 1) := gdX1_mirrors_0.2.1
theorem dX1_mirrors_2 : decode cX1_mirrors 2 = .ok (.iconst 0, 1) := gdX1_mirrors_0.2.2.1
theorem dX1_mirrors_3 : decode cX1_mirrors 3 = .ok (.istore_n 2, 1) := gdX1_mirrors_0.2.2.2.1
theorem dX1_mirrors_4 : decode cX1_mirrors 4 = .ok (.iload_n 2, 1) := gdX1_mirrors_0.2.2.2.2.1
theorem dX1_mirrors_5 : decode cX1_mirrors 5 = .ok (.bipush 80, 2) := gdX1_mirrors_0.2.2.2.2.2.1
theorem dX1_mirrors_7 : decode cX1_mirrors 7 = .ok (.if_icmp .ge 20, 3) := gdX1_mirrors_0.2.2.2.2.2.2.1
theorem dX1_mirrors_10 : decode cX1_mirrors 10 = .ok (.aload_n 0, 1) := gdX1_mirrors_0.2.2.2.2.2.2.2
set_option maxRecDepth 20000 in
theorem gdX1_mirrors_11 : decode cX1_mirrors 11 = .ok (.iload_n 2, 1) ∧ decode cX1_mirrors 12 = .ok (.invokevirtual 82, 3) ∧ decode cX1_mirrors 15 = .ok (.ifCond .eq 6, 3) ∧ decode cX1_mirrors 18 = .ok (.iinc 1 1, 3) ∧ decode cX1_mirrors 21 = .ok (.iinc 2 1, 3) ∧ decode cX1_mirrors 24 = .ok (.goto (-20), 3) ∧ decode cX1_mirrors 27 = .ok (.iload_n 1, 1) ∧ decode cX1_mirrors 28 = .ok (.ireturn, 1) := by decide +kernel
theorem dX1_mirrors_11 : decode cX1_mirrors 11 = .ok (.iload_n 2, 1) := gdX1_mirrors_11.1
theorem dX1_mirrors_12 : decode cX1_mirrors 12 = .ok (.invokevirtual 82, 3) := gdX1_mirrors_11.2.1
theorem dX1_mirrors_15 : decode cX1_mirrors 15 = .ok (.ifCond .eq 6, 3) := gdX1_mirrors_11.2.2.1
theorem dX1_mirrors_18 : decode cX1_mirrors 18 = .ok (.iinc 1 1, 3) := gdX1_mirrors_11.2.2.2.1
theorem dX1_mirrors_21 : decode cX1_mirrors 21 = .ok (.iinc 2 1, 3) := gdX1_mirrors_11.2.2.2.2.1
theorem dX1_mirrors_24 : decode cX1_mirrors 24 = .ok (.goto (-20), 3) := gdX1_mirrors_11.2.2.2.2.2.1
theorem dX1_mirrors_27 : decode cX1_mirrors 27 = .ok (.iload_n 1, 1) := gdX1_mirrors_11.2.2.2.2.2.2.1
theorem dX1_mirrors_28 : decode cX1_mirrors 28 = .ok (.ireturn, 1) := gdX1_mirrors_11.2.2.2.2.2.2.2
set_option maxRecDepth 20000 in
theorem gdX1_openBeside_0 : decode cX1_openBeside 0 = .ok (.iconst 0, 1) ∧ decode cX1_openBeside 1 = .ok (.istore_n 2, 1) ∧ decode cX1_openBeside 2 = .ok (.iconst 0, 1) ∧ decode cX1_openBeside 3 = .ok (.istore_n 3, 1) ∧ decode cX1_openBeside 4 = .ok (.iload_n 3, 1) ∧ decode cX1_openBeside 5 = .ok (.bipush 8, 2) ∧ decode cX1_openBeside 7 = .ok (.if_icmp .ge 25, 3) ∧ decode cX1_openBeside 10 = .ok (.aload_n 0, 1) := by decide +kernel
theorem dX1_openBeside_0 : decode cX1_openBeside 0 = .ok (.iconst 0, 1) := gdX1_openBeside_0.1
theorem dX1_openBeside_1 : decode cX1_openBeside 1 = .ok (.istore_n 2, 1) := gdX1_openBeside_0.2.1
theorem dX1_openBeside_2 : decode cX1_openBeside 2 = .ok (.iconst 0, 1) := gdX1_openBeside_0.2.2.1
theorem dX1_openBeside_3 : decode cX1_openBeside 3 = .ok (.istore_n 3, 1) := gdX1_openBeside_0.2.2.2.1
theorem dX1_openBeside_4 : decode cX1_openBeside 4 = .ok (.iload_n 3, 1) := gdX1_openBeside_0.2.2.2.2.1
theorem dX1_openBeside_5 : decode cX1_openBeside 5 = .ok (.bipush 8, 2) := gdX1_openBeside_0.2.2.2.2.2.1
theorem dX1_openBeside_7 : decode cX1_openBeside 7 = .ok (.if_icmp .ge 25, 3) := gdX1_openBeside_0.2.2.2.2.2.2.1
theorem dX1_openBeside_10 : decode cX1_openBeside 10 = .ok (.aload_n 0, 1) := gdX1_openBeside_0.2.2.2.2.2.2.2
set_option maxRecDepth 20000 in
theorem gdX1_openBeside_11 : decode cX1_openBeside 11 = .ok (.aload_n 0, 1) ∧ decode cX1_openBeside 12 = .ok (.iload_n 1, 1) ∧ decode cX1_openBeside 13 = .ok (.iload_n 3, 1) ∧ decode cX1_openBeside 14 = .ok (.invokevirtual 75, 3) ∧ decode cX1_openBeside 17 = .ok (.invokevirtual 79, 3) ∧ decode cX1_openBeside 20 = .ok (.ifCond .eq 6, 3) ∧ decode cX1_openBeside 23 = .ok (.iinc 2 1, 3) ∧ decode cX1_openBeside 26 = .ok (.iinc 3 1, 3) := by decide +kernel
theorem dX1_openBeside_11 : decode cX1_openBeside 11 = .ok (.aload_n 0, 1) := gdX1_openBeside_11.1
theorem dX1_openBeside_12 : decode cX1_openBeside 12 = .ok (.iload_n 1, 1) := gdX1_openBeside_11.2.1
theorem dX1_openBeside_13 : decode cX1_openBeside 13 = .ok (.iload_n 3, 1) := gdX1_openBeside_11.2.2.1
theorem dX1_openBeside_14 : decode cX1_openBeside 14 = .ok (.invokevirtual 75, 3) := gdX1_openBeside_11.2.2.2.1
theorem dX1_openBeside_17 : decode cX1_openBeside 17 = .ok (.invokevirtual 79, 3) := gdX1_openBeside_11.2.2.2.2.1
theorem dX1_openBeside_20 : decode cX1_openBeside 20 = .ok (.ifCond .eq 6, 3) := gdX1_openBeside_11.2.2.2.2.2.1
theorem dX1_openBeside_23 : decode cX1_openBeside 23 = .ok (.iinc 2 1, 3) := gdX1_openBeside_11.2.2.2.2.2.2.1
theorem dX1_openBeside_26 : decode cX1_openBeside 26 = .ok (.iinc 3 1, 3) := gdX1_openBeside_11.2.2.2.2.2.2.2
set_option maxRecDepth 20000 in
theorem gdX1_openBeside_29 : decode cX1_openBeside 29 = .ok (.goto (-25), 3) ∧ decode cX1_openBeside 32 = .ok (.iload_n 2, 1) ∧ decode cX1_openBeside 33 = .ok (.ireturn, 1) := by decide +kernel
theorem dX1_openBeside_29 : decode cX1_openBeside 29 = .ok (.goto (-25), 3) := gdX1_openBeside_29.1
theorem dX1_openBeside_32 : decode cX1_openBeside 32 = .ok (.iload_n 2, 1) := gdX1_openBeside_29.2.1
theorem dX1_openBeside_33 : decode cX1_openBeside 33 = .ok (.ireturn, 1) := gdX1_openBeside_29.2.2
set_option maxRecDepth 20000 in
theorem gdX1_paidBy_0 : decode cX1_paidBy 0 = .ok (.iconst 0, 1) ∧ decode cX1_paidBy 1 = .ok (.istore_n 2, 1) ∧ decode cX1_paidBy 2 = .ok (.iconst 0, 1) ∧ decode cX1_paidBy 3 = .ok (.istore_n 3, 1) ∧ decode cX1_paidBy 4 = .ok (.iload_n 3, 1) ∧ decode cX1_paidBy 5 = .ok (.bipush 6, 2) ∧ decode cX1_paidBy 7 = .ok (.if_icmp .ge 23, 3) ∧ decode cX1_paidBy 10 = .ok (.iload_n 2, 1) := by decide +kernel
theorem dX1_paidBy_0 : decode cX1_paidBy 0 = .ok (.iconst 0, 1) := gdX1_paidBy_0.1
theorem dX1_paidBy_1 : decode cX1_paidBy 1 = .ok (.istore_n 2, 1) := gdX1_paidBy_0.2.1
theorem dX1_paidBy_2 : decode cX1_paidBy 2 = .ok (.iconst 0, 1) := gdX1_paidBy_0.2.2.1
theorem dX1_paidBy_3 : decode cX1_paidBy 3 = .ok (.istore_n 3, 1) := gdX1_paidBy_0.2.2.2.1
theorem dX1_paidBy_4 : decode cX1_paidBy 4 = .ok (.iload_n 3, 1) := gdX1_paidBy_0.2.2.2.2.1
theorem dX1_paidBy_5 : decode cX1_paidBy 5 = .ok (.bipush 6, 2) := gdX1_paidBy_0.2.2.2.2.2.1
theorem dX1_paidBy_7 : decode cX1_paidBy 7 = .ok (.if_icmp .ge 23, 3) := gdX1_paidBy_0.2.2.2.2.2.2.1
theorem dX1_paidBy_10 : decode cX1_paidBy 10 = .ok (.iload_n 2, 1) := gdX1_paidBy_0.2.2.2.2.2.2.2
set_option maxRecDepth 20000 in
theorem gdX1_paidBy_11 : decode cX1_paidBy 11 = .ok (.aload_n 0, 1) ∧ decode cX1_paidBy 12 = .ok (.getfield 43, 3) ∧ decode cX1_paidBy 15 = .ok (.iload_n 1, 1) ∧ decode cX1_paidBy 16 = .ok (.bipush 6, 2) ∧ decode cX1_paidBy 18 = .ok (.imul, 1) ∧ decode cX1_paidBy 19 = .ok (.iload_n 3, 1) ∧ decode cX1_paidBy 20 = .ok (.iadd, 1) ∧ decode cX1_paidBy 21 = .ok (.iaload, 1) := by decide +kernel
theorem dX1_paidBy_11 : decode cX1_paidBy 11 = .ok (.aload_n 0, 1) := gdX1_paidBy_11.1
theorem dX1_paidBy_12 : decode cX1_paidBy 12 = .ok (.getfield 43, 3) := gdX1_paidBy_11.2.1
theorem dX1_paidBy_15 : decode cX1_paidBy 15 = .ok (.iload_n 1, 1) := gdX1_paidBy_11.2.2.1
theorem dX1_paidBy_16 : decode cX1_paidBy 16 = .ok (.bipush 6, 2) := gdX1_paidBy_11.2.2.2.1
theorem dX1_paidBy_18 : decode cX1_paidBy 18 = .ok (.imul, 1) := gdX1_paidBy_11.2.2.2.2.1
theorem dX1_paidBy_19 : decode cX1_paidBy 19 = .ok (.iload_n 3, 1) := gdX1_paidBy_11.2.2.2.2.2.1
theorem dX1_paidBy_20 : decode cX1_paidBy 20 = .ok (.iadd, 1) := gdX1_paidBy_11.2.2.2.2.2.2.1
theorem dX1_paidBy_21 : decode cX1_paidBy 21 = .ok (.iaload, 1) := gdX1_paidBy_11.2.2.2.2.2.2.2
set_option maxRecDepth 20000 in
theorem gdX1_paidBy_22 : decode cX1_paidBy 22 = .ok (.iadd, 1) ∧ decode cX1_paidBy 23 = .ok (.istore_n 2, 1) ∧ decode cX1_paidBy 24 = .ok (.iinc 3 1, 3) ∧ decode cX1_paidBy 27 = .ok (.goto (-23), 3) ∧ decode cX1_paidBy 30 = .ok (.iload_n 2, 1) ∧ decode cX1_paidBy 31 = .ok (.ireturn, 1) := by decide +kernel
theorem dX1_paidBy_22 : decode cX1_paidBy 22 = .ok (.iadd, 1) := gdX1_paidBy_22.1
theorem dX1_paidBy_23 : decode cX1_paidBy 23 = .ok (.istore_n 2, 1) := gdX1_paidBy_22.2.1
theorem dX1_paidBy_24 : decode cX1_paidBy 24 = .ok (.iinc 3 1, 3) := gdX1_paidBy_22.2.2.1
theorem dX1_paidBy_27 : decode cX1_paidBy 27 = .ok (.goto (-23), 3) := gdX1_paidBy_22.2.2.2.1
theorem dX1_paidBy_30 : decode cX1_paidBy 30 = .ok (.iload_n 2, 1) := gdX1_paidBy_22.2.2.2.2.1
theorem dX1_paidBy_31 : decode cX1_paidBy 31 = .ok (.ireturn, 1) := gdX1_paidBy_22.2.2.2.2.2
set_option maxRecDepth 20000 in
theorem gdX1_paidTo_0 : decode cX1_paidTo 0 = .ok (.iconst 0, 1) ∧ decode cX1_paidTo 1 = .ok (.istore_n 2, 1) ∧ decode cX1_paidTo 2 = .ok (.iconst 0, 1) ∧ decode cX1_paidTo 3 = .ok (.istore_n 3, 1) ∧ decode cX1_paidTo 4 = .ok (.iload_n 3, 1) ∧ decode cX1_paidTo 5 = .ok (.aload_n 0, 1) ∧ decode cX1_paidTo 6 = .ok (.getfield 18, 3) ∧ decode cX1_paidTo 9 = .ok (.if_icmp .ge 23, 3) := by decide +kernel
theorem dX1_paidTo_0 : decode cX1_paidTo 0 = .ok (.iconst 0, 1) := gdX1_paidTo_0.1
theorem dX1_paidTo_1 : decode cX1_paidTo 1 = .ok (.istore_n 2, 1) := gdX1_paidTo_0.2.1
theorem dX1_paidTo_2 : decode cX1_paidTo 2 = .ok (.iconst 0, 1) := gdX1_paidTo_0.2.2.1
theorem dX1_paidTo_3 : decode cX1_paidTo 3 = .ok (.istore_n 3, 1) := gdX1_paidTo_0.2.2.2.1
theorem dX1_paidTo_4 : decode cX1_paidTo 4 = .ok (.iload_n 3, 1) := gdX1_paidTo_0.2.2.2.2.1
theorem dX1_paidTo_5 : decode cX1_paidTo 5 = .ok (.aload_n 0, 1) := gdX1_paidTo_0.2.2.2.2.2.1
theorem dX1_paidTo_6 : decode cX1_paidTo 6 = .ok (.getfield 18, 3) := gdX1_paidTo_0.2.2.2.2.2.2.1
theorem dX1_paidTo_9 : decode cX1_paidTo 9 = .ok (.if_icmp .ge 23, 3) := gdX1_paidTo_0.2.2.2.2.2.2.2
set_option maxRecDepth 20000 in
theorem gdX1_paidTo_12 : decode cX1_paidTo 12 = .ok (.iload_n 2, 1) ∧ decode cX1_paidTo 13 = .ok (.aload_n 0, 1) ∧ decode cX1_paidTo 14 = .ok (.getfield 43, 3) ∧ decode cX1_paidTo 17 = .ok (.iload_n 3, 1) ∧ decode cX1_paidTo 18 = .ok (.bipush 6, 2) ∧ decode cX1_paidTo 20 = .ok (.imul, 1) ∧ decode cX1_paidTo 21 = .ok (.iload_n 1, 1) ∧ decode cX1_paidTo 22 = .ok (.iadd, 1) := by decide +kernel
theorem dX1_paidTo_12 : decode cX1_paidTo 12 = .ok (.iload_n 2, 1) := gdX1_paidTo_12.1
theorem dX1_paidTo_13 : decode cX1_paidTo 13 = .ok (.aload_n 0, 1) := gdX1_paidTo_12.2.1
theorem dX1_paidTo_14 : decode cX1_paidTo 14 = .ok (.getfield 43, 3) := gdX1_paidTo_12.2.2.1
theorem dX1_paidTo_17 : decode cX1_paidTo 17 = .ok (.iload_n 3, 1) := gdX1_paidTo_12.2.2.2.1
theorem dX1_paidTo_18 : decode cX1_paidTo 18 = .ok (.bipush 6, 2) := gdX1_paidTo_12.2.2.2.2.1
theorem dX1_paidTo_20 : decode cX1_paidTo 20 = .ok (.imul, 1) := gdX1_paidTo_12.2.2.2.2.2.1
theorem dX1_paidTo_21 : decode cX1_paidTo 21 = .ok (.iload_n 1, 1) := gdX1_paidTo_12.2.2.2.2.2.2.1
theorem dX1_paidTo_22 : decode cX1_paidTo 22 = .ok (.iadd, 1) := gdX1_paidTo_12.2.2.2.2.2.2.2
set_option maxRecDepth 20000 in
theorem gdX1_paidTo_23 : decode cX1_paidTo 23 = .ok (.iaload, 1) ∧ decode cX1_paidTo 24 = .ok (.iadd, 1) ∧ decode cX1_paidTo 25 = .ok (.istore_n 2, 1) ∧ decode cX1_paidTo 26 = .ok (.iinc 3 1, 3) ∧ decode cX1_paidTo 29 = .ok (.goto (-25), 3) ∧ decode cX1_paidTo 32 = .ok (.iload_n 2, 1) ∧ decode cX1_paidTo 33 = .ok (.ireturn, 1) := by decide +kernel
theorem dX1_paidTo_23 : decode cX1_paidTo 23 = .ok (.iaload, 1) := gdX1_paidTo_23.1
theorem dX1_paidTo_24 : decode cX1_paidTo 24 = .ok (.iadd, 1) := gdX1_paidTo_23.2.1
theorem dX1_paidTo_25 : decode cX1_paidTo 25 = .ok (.istore_n 2, 1) := gdX1_paidTo_23.2.2.1
theorem dX1_paidTo_26 : decode cX1_paidTo 26 = .ok (.iinc 3 1, 3) := gdX1_paidTo_23.2.2.2.1
theorem dX1_paidTo_29 : decode cX1_paidTo 29 = .ok (.goto (-25), 3) := gdX1_paidTo_23.2.2.2.2.1
theorem dX1_paidTo_32 : decode cX1_paidTo 32 = .ok (.iload_n 2, 1) := gdX1_paidTo_23.2.2.2.2.2.1
theorem dX1_paidTo_33 : decode cX1_paidTo 33 = .ok (.ireturn, 1) := gdX1_paidTo_23.2.2.2.2.2.2
set_option maxRecDepth 20000 in
theorem gdX1_pays_0 : decode cX1_pays 0 = .ok (.aload_n 0, 1) ∧ decode cX1_pays 1 = .ok (.getfield 37, 3) ∧ decode cX1_pays 4 = .ok (.iload_n 1, 1) ∧ decode cX1_pays 5 = .ok (.iaload, 1) ∧ decode cX1_pays 6 = .ok (.iconst 1, 1) ∧ decode cX1_pays 7 = .ok (.if_icmp .ne 12, 3) ∧ decode cX1_pays 10 = .ok (.aload_n 0, 1) ∧ decode cX1_pays 11 = .ok (.getfield 28, 3) := by decide +kernel
theorem dX1_pays_0 : decode cX1_pays 0 = .ok (.aload_n 0, 1) := gdX1_pays_0.1
theorem dX1_pays_1 : decode cX1_pays 1 = .ok (.getfield 37, 3) := gdX1_pays_0.2.1
theorem dX1_pays_4 : decode cX1_pays 4 = .ok (.iload_n 1, 1) := gdX1_pays_0.2.2.1
theorem dX1_pays_5 : decode cX1_pays 5 = .ok (.iaload, 1) := gdX1_pays_0.2.2.2.1
theorem dX1_pays_6 : decode cX1_pays 6 = .ok (.iconst 1, 1) := gdX1_pays_0.2.2.2.2.1
theorem dX1_pays_7 : decode cX1_pays 7 = .ok (.if_icmp .ne 12, 3) := gdX1_pays_0.2.2.2.2.2.1
theorem dX1_pays_10 : decode cX1_pays 10 = .ok (.aload_n 0, 1) := gdX1_pays_0.2.2.2.2.2.2.1
theorem dX1_pays_11 : decode cX1_pays 11 = .ok (.getfield 28, 3) := gdX1_pays_0.2.2.2.2.2.2.2
set_option maxRecDepth 20000 in
theorem gdX1_pays_14 : decode cX1_pays 14 = .ok (.iload_n 2, 1) ∧ decode cX1_pays 15 = .ok (.iaload, 1) ∧ decode cX1_pays 16 = .ok (.ifCond .ne 7, 3) ∧ decode cX1_pays 19 = .ok (.iconst 1, 1) ∧ decode cX1_pays 20 = .ok (.goto 4, 3) ∧ decode cX1_pays 23 = .ok (.iconst 0, 1) ∧ decode cX1_pays 24 = .ok (.ireturn, 1) := by decide +kernel
theorem dX1_pays_14 : decode cX1_pays 14 = .ok (.iload_n 2, 1) := gdX1_pays_14.1
theorem dX1_pays_15 : decode cX1_pays 15 = .ok (.iaload, 1) := gdX1_pays_14.2.1
theorem dX1_pays_16 : decode cX1_pays 16 = .ok (.ifCond .ne 7, 3) := gdX1_pays_14.2.2.1
theorem dX1_pays_19 : decode cX1_pays 19 = .ok (.iconst 1, 1) := gdX1_pays_14.2.2.2.1
theorem dX1_pays_20 : decode cX1_pays 20 = .ok (.goto 4, 3) := gdX1_pays_14.2.2.2.2.1
theorem dX1_pays_23 : decode cX1_pays 23 = .ok (.iconst 0, 1) := gdX1_pays_14.2.2.2.2.2.1
theorem dX1_pays_24 : decode cX1_pays 24 = .ok (.ireturn, 1) := gdX1_pays_14.2.2.2.2.2.2
set_option maxRecDepth 20000 in
theorem gdX1_unseeing_0 : decode cX1_unseeing 0 = .ok (.iconst 0, 1) ∧ decode cX1_unseeing 1 = .ok (.istore_n 2, 1) ∧ decode cX1_unseeing 2 = .ok (.iconst 0, 1) ∧ decode cX1_unseeing 3 = .ok (.istore_n 3, 1) ∧ decode cX1_unseeing 4 = .ok (.iload_n 3, 1) ∧ decode cX1_unseeing 5 = .ok (.aload_n 0, 1) ∧ decode cX1_unseeing 6 = .ok (.getfield 18, 3) ∧ decode cX1_unseeing 9 = .ok (.if_icmp .ge 29, 3) := by decide +kernel
theorem dX1_unseeing_0 : decode cX1_unseeing 0 = .ok (.iconst 0, 1) := gdX1_unseeing_0.1
theorem dX1_unseeing_1 : decode cX1_unseeing 1 = .ok (.istore_n 2, 1) := gdX1_unseeing_0.2.1
theorem dX1_unseeing_2 : decode cX1_unseeing 2 = .ok (.iconst 0, 1) := gdX1_unseeing_0.2.2.1
theorem dX1_unseeing_3 : decode cX1_unseeing 3 = .ok (.istore_n 3, 1) := gdX1_unseeing_0.2.2.2.1
theorem dX1_unseeing_4 : decode cX1_unseeing 4 = .ok (.iload_n 3, 1) := gdX1_unseeing_0.2.2.2.2.1
theorem dX1_unseeing_5 : decode cX1_unseeing 5 = .ok (.aload_n 0, 1) := gdX1_unseeing_0.2.2.2.2.2.1
theorem dX1_unseeing_6 : decode cX1_unseeing 6 = .ok (.getfield 18, 3) := gdX1_unseeing_0.2.2.2.2.2.2.1
theorem dX1_unseeing_9 : decode cX1_unseeing 9 = .ok (.if_icmp .ge 29, 3) := gdX1_unseeing_0.2.2.2.2.2.2.2
set_option maxRecDepth 20000 in
theorem gdX1_unseeing_12 : decode cX1_unseeing 12 = .ok (.aload_n 0, 1) ∧ decode cX1_unseeing 13 = .ok (.getfield 46, 3) ∧ decode cX1_unseeing 16 = .ok (.iload_n 3, 1) ∧ decode cX1_unseeing 17 = .ok (.bipush 6, 2) ∧ decode cX1_unseeing 19 = .ok (.imul, 1) ∧ decode cX1_unseeing 20 = .ok (.iload_n 1, 1) ∧ decode cX1_unseeing 21 = .ok (.iadd, 1) ∧ decode cX1_unseeing 22 = .ok (.iaload, 1) := by decide +kernel
theorem dX1_unseeing_12 : decode cX1_unseeing 12 = .ok (.aload_n 0, 1) := gdX1_unseeing_12.1
theorem dX1_unseeing_13 : decode cX1_unseeing 13 = .ok (.getfield 46, 3) := gdX1_unseeing_12.2.1
theorem dX1_unseeing_16 : decode cX1_unseeing 16 = .ok (.iload_n 3, 1) := gdX1_unseeing_12.2.2.1
theorem dX1_unseeing_17 : decode cX1_unseeing 17 = .ok (.bipush 6, 2) := gdX1_unseeing_12.2.2.2.1
theorem dX1_unseeing_19 : decode cX1_unseeing 19 = .ok (.imul, 1) := gdX1_unseeing_12.2.2.2.2.1
theorem dX1_unseeing_20 : decode cX1_unseeing 20 = .ok (.iload_n 1, 1) := gdX1_unseeing_12.2.2.2.2.2.1
theorem dX1_unseeing_21 : decode cX1_unseeing 21 = .ok (.iadd, 1) := gdX1_unseeing_12.2.2.2.2.2.2.1
theorem dX1_unseeing_22 : decode cX1_unseeing 22 = .ok (.iaload, 1) := gdX1_unseeing_12.2.2.2.2.2.2.2
set_option maxRecDepth 20000 in
theorem gdX1_unseeing_23 : decode cX1_unseeing 23 = .ok (.ifCond .ne 9, 3) ∧ decode cX1_unseeing 26 = .ok (.iload_n 2, 1) ∧ decode cX1_unseeing 27 = .ok (.iconst 1, 1) ∧ decode cX1_unseeing 28 = .ok (.iload_n 3, 1) ∧ decode cX1_unseeing 29 = .ok (.ishl, 1) ∧ decode cX1_unseeing 30 = .ok (.ior, 1) ∧ decode cX1_unseeing 31 = .ok (.istore_n 2, 1) ∧ decode cX1_unseeing 32 = .ok (.iinc 3 1, 3) := by decide +kernel
theorem dX1_unseeing_23 : decode cX1_unseeing 23 = .ok (.ifCond .ne 9, 3) := gdX1_unseeing_23.1
theorem dX1_unseeing_26 : decode cX1_unseeing 26 = .ok (.iload_n 2, 1) := gdX1_unseeing_23.2.1
theorem dX1_unseeing_27 : decode cX1_unseeing 27 = .ok (.iconst 1, 1) := gdX1_unseeing_23.2.2.1
theorem dX1_unseeing_28 : decode cX1_unseeing 28 = .ok (.iload_n 3, 1) := gdX1_unseeing_23.2.2.2.1
theorem dX1_unseeing_29 : decode cX1_unseeing 29 = .ok (.ishl, 1) := gdX1_unseeing_23.2.2.2.2.1
theorem dX1_unseeing_30 : decode cX1_unseeing 30 = .ok (.ior, 1) := gdX1_unseeing_23.2.2.2.2.2.1
theorem dX1_unseeing_31 : decode cX1_unseeing 31 = .ok (.istore_n 2, 1) := gdX1_unseeing_23.2.2.2.2.2.2.1
theorem dX1_unseeing_32 : decode cX1_unseeing 32 = .ok (.iinc 3 1, 3) := gdX1_unseeing_23.2.2.2.2.2.2.2
set_option maxRecDepth 20000 in
theorem gdX1_unseeing_35 : decode cX1_unseeing 35 = .ok (.goto (-31), 3) ∧ decode cX1_unseeing 38 = .ok (.iload_n 2, 1) ∧ decode cX1_unseeing 39 = .ok (.ireturn, 1) := by decide +kernel
theorem dX1_unseeing_35 : decode cX1_unseeing 35 = .ok (.goto (-31), 3) := gdX1_unseeing_35.1
theorem dX1_unseeing_38 : decode cX1_unseeing 38 = .ok (.iload_n 2, 1) := gdX1_unseeing_35.2.1
theorem dX1_unseeing_39 : decode cX1_unseeing 39 = .ok (.ireturn, 1) := gdX1_unseeing_35.2.2
theorem jX1_beside_X1 : ∀ w ∈ u_ws RX1 TX1 12, w ∈ wsX1_beside := fun w h => List.mem_cons_of_mem _ (List.mem_append_right _ h)
theorem jX1_clear_X1 : ∀ w ∈ u_ws RX1 TX1 12, w ∈ wsX1_clear := fun w h => List.mem_cons_of_mem _ (List.mem_append_right _ h)
theorem jX1_isTaken_X1 : ∀ w ∈ u_ws RX1 TX1 12, w ∈ wsX1_isTaken := fun w h => List.mem_cons_of_mem _ (List.mem_append_right _ h)
theorem jX1_paidBy_X1 : ∀ w ∈ u_ws RX1 TX1 12, w ∈ wsX1_paidBy := fun w h => List.mem_cons_of_mem _ (List.mem_append_right _ h)
theorem jX1_paidTo_X1 : ∀ w ∈ u_ws RX1 TX1 12, w ∈ wsX1_paidTo := fun w h => List.mem_cons_of_mem _ (List.mem_append_right _ h)
theorem jX1_pays_X1 : ∀ w ∈ u_ws RX1 TX1 12, w ∈ wsX1_pays := fun w h => List.mem_cons_of_mem _ (List.mem_append_right _ h)
theorem jX1_unseeing_X1 : ∀ w ∈ u_ws RX1 TX1 12, w ∈ wsX1_unseeing := fun w h => List.mem_cons_of_mem _ (List.mem_append_right _ h)
theorem hdV_X1_beside : yX1_beside.cls = RX1 ∧ yX1_beside.cls ≠ "java/lang/invoke/MethodHandle" ∧ yX1_beside.cls ≠ "java/lang/invoke/VarHandle" ∧ (parseMethodDescriptor yX1_beside.desc).map (fun d => d.parameters.length) = some 2 := by decide +kernel
theorem hdV_X1_isMirror : yX1_isMirror.cls = RX1 ∧ yX1_isMirror.cls ≠ "java/lang/invoke/MethodHandle" ∧ yX1_isMirror.cls ≠ "java/lang/invoke/VarHandle" ∧ (parseMethodDescriptor yX1_isMirror.desc).map (fun d => d.parameters.length) = some 1 := by decide +kernel
theorem hdV_X1_isOpen : yX1_isOpen.cls = RX1 ∧ yX1_isOpen.cls ≠ "java/lang/invoke/MethodHandle" ∧ yX1_isOpen.cls ≠ "java/lang/invoke/VarHandle" ∧ (parseMethodDescriptor yX1_isOpen.desc).map (fun d => d.parameters.length) = some 1 := by decide +kernel
theorem listR {l : List Int32} {lo hi : Int} (h : ∀ x ∈ l, lo ≤ x.toInt ∧ x.toInt ≤ hi) (h0 : lo ≤ 0 ∧ 0 ≤ hi) {x : Int32} {j : Nat} (e : x = l.getD j 0) : lo ≤ x.toInt ∧ x.toInt ≤ hi := by
  rw [e, List.getD_eq_getElem?_getD]
  cases hj : l[j]? with
  | none => exact h0
  | some y => exact h y (List.mem_of_getElem? hj)
theorem east_v {w x : Int32} (h : 0 ≤ w.toInt ∧ w.toInt < 8) (e : x = eastL.getD w.toNatClampNeg 0) : x.toInt = eE w.toInt := by
  have h3 : w.toNatClampNeg = w.toInt.toNat := rfl
  rcases (show w.toInt = 0 ∨ w.toInt = 1 ∨ w.toInt = 2 ∨ w.toInt = 3 ∨ w.toInt = 4 ∨ w.toInt = 5 ∨ w.toInt = 6 ∨ w.toInt = 7 by omega) with q | q | q | q | q | q | q | q <;> (rw [h3, q] at e; rw [e, q]; rfl)
theorem south_v {w x : Int32} (h : 0 ≤ w.toInt ∧ w.toInt < 8) (e : x = southL.getD w.toNatClampNeg 0) : x.toInt = eS w.toInt := by
  have h3 : w.toNatClampNeg = w.toInt.toNat := rfl
  rcases (show w.toInt = 0 ∨ w.toInt = 1 ∨ w.toInt = 2 ∨ w.toInt = 3 ∨ w.toInt = 4 ∨ w.toInt = 5 ∨ w.toInt = 6 ∨ w.toInt = 7 by omega) with q | q | q | q | q | q | q | q <;> (rw [h3, q] at e; rw [e, q]; rfl)
theorem ob_y {cw ch k i r : Int} {fc : Nat → Int32} (hn : r = nbT cw ch k i) (h0 : 0 ≤ i) (ho : 0 ≤ r ∧ r % 10 < cw ∧ r / 10 < ch ∧ (fc r.toNat).toInt = 0) : obX cw ch fc k i.toNat := by
  unfold obX
  rw [show ((i.toNat : Nat) : Int) = i from by omega, ← hn]
  exact ⟨ho.1, ho.2.2.2⟩
theorem ob_n {cw ch k i r : Int} {fc : Nat → Int32} (hn : r = nbT cw ch k i) (h0 : 0 ≤ i) (hw : cw ≤ 10) (ho : ¬ (0 ≤ r ∧ r % 10 < cw ∧ r / 10 < ch ∧ (fc r.toNat).toInt = 0)) : ¬ obX cw ch fc k i.toNat := by
  unfold obX
  rw [show ((i.toNat : Nat) : Int) = i from by omega, ← hn]
  intro z
  have y := z.1
  rw [hn] at y
  have q := nbT_in hw y
  rw [← hn] at q
  exact ho ⟨q.1, q.2.1, q.2.2, z.2⟩
theorem cnA_i8 {P : Nat → Prop} {q i : Int} (h : q = cnA P i.toNat) (h1 : 8 ≤ i) (h2 : i ≤ 8) : q = cnA P 8 := by rw [h, show i.toNat = 8 from by omega]
set_option maxHeartbeats 4000000 in
set_option maxRecDepth 100000 in
theorem s_X1_beside (l : Launch) (D : va_G) (cI cZ cC cS : ClassId) (sq : Nat → Nat) (sz : Nat) (ct : Nat) (k : Int32) (wy : Int32) (cw : Int32) (ch : Int32) (cp : Int32) (aCells : Nat) (aPrices : Nat) (aFree : Nat) (aPlaces : Nat) (aHomes : Nat) (aManners : Nat) (aGone : Nat) (aPaid : Nat) (aBlinks : Nat) (hw : 0 ≤ cw.toInt ∧ cw.toInt ≤ 10) (hh : 0 ≤ ch.toInt ∧ ch.toInt ≤ 8) (hk : 0 ≤ k.toInt ∧ k.toInt < 80) (hy : 0 ≤ wy.toInt ∧ wy.toInt < 8) : mI l yX1_beside wsX1_beside 0 0 D (tyW cI cZ cC cS) sq [(ct, .inr (1, [.int cw, .int ch, .int cp, .ref aCells, .ref aPrices, .ref aFree, .ref aPlaces, .ref aHomes, .ref aManners, .ref aGone, .ref aPaid, .ref aBlinks]))] sz [.ref ct, .int k, .int wy] (fun r w => ((-1 ≤ r.toInt ∧ r.toInt < 80) ∧ (r.toInt = nbT cw.toInt ch.toInt k.toInt wy.toInt) ∧ w = [(ct, .inr (1, [.int cw, .int ch, .int cp, .ref aCells, .ref aPrices, .ref aFree, .ref aPlaces, .ref aHomes, .ref aManners, .ref aGone, .ref aPaid, .ref aBlinks]))])) := by
  refine b_metI (cc := cX1_beside) (maxL := 5) (ret := (some .int)) (by decide) rfl (Nat.le_of_ble_eq_true rfl) ?_
  intro p e s m below meth c ls A H X hsz hP hK hT hD hA hS hl
  have S : CallFix p m c cX1_beside 5 s ([.ref ct, .int k, .int wy] : List Value).toArray wsX1_beside RX1 := X.1
  have hl : lv_has ls 5 [(0, .ref ct), (1, .int k), (2, .int wy)] := hl
  have iX1 := jX1_beside_X1
  refine lv_iload_n S.1 S.2.1 dX1_beside_0 rfl (lv_at hl 1 rfl) ?_
  refine lv_bipush (v := (10)) S.1 S.2.1 dX1_beside_1 (by decide) ?_
  refine lv_irem S.1 S.2.1 dX1_beside_3 (by decide) ?_
  refine lv_topi (fun x_1 ex_1 => ?_)
  have tx_1 : x_1.toInt = k.toInt % 10 := remI (A := k.toInt) (B := 10) ex_1 rfl rfl (by  omega) (by decide)
  refine va_getsN (C := RX8) S.1 S.2.1 hT.1.1 hS S.2.2.2.1 (va_Nw.use rfl hK.2.2.2.2.2.2.2.2.2.1) (fun _ h => h) dX1_beside_4 ?_
  refine lv_iload_n S.1 S.2.1 dX1_beside_7 rfl (lv_at hl 2 rfl) ?_
  refine va_ti (v := .int (eastL.getD wy.toNatClampNeg 0)) S.1 S.2.1 hT.1.2 hS (in_of (n := 8) (by  omega) (by  omega)) rfl dX1_beside_8 ?_
  refine lv_topi (fun x_2 ex_2 => ?_)
  have tx_2 := listR (lo := -1) (hi := 1) (l := eastL) (by decide) (by decide) ex_2
  have eax_2 := east_v (w := wy) (by first | (and_intros <;> first | with_reducible assumption | (refine Int.le_antisymm ?_ ?_ <;> omega) | omega) | omega) ex_2
  refine lv_iadd S.1 S.2.1 dX1_beside_9 ?_
  refine lv_topi (fun x_3 ex_3 => ?_)
  have tx_3 : x_3.toInt = x_1.toInt + (x_2.toInt) := addI (A := x_1.toInt) (B := x_2.toInt) ex_3 rfl rfl (by  omega) (by  omega)
  refine lv_istore_n (lv' := [(3, .int x_3), (0, .ref ct), (1, .int k), (2, .int wy)]) S.1 S.2.1 dX1_beside_10 rfl hl (by decide) rfl (fun ls hl => ?_)
  refine lv_iload_n S.1 S.2.1 dX1_beside_11 rfl (lv_at hl 2 rfl) ?_
  refine lv_bipush (v := (10)) S.1 S.2.1 dX1_beside_12 (by decide) ?_
  refine lv_idiv S.1 S.2.1 dX1_beside_14 (by decide) ?_
  refine lv_topi (fun x_4 ex_4 => ?_)
  have tx_4 : x_4.toInt = k.toInt / 10 := divI (A := k.toInt) (B := 10) ex_4 rfl rfl (by  omega) (by decide)
  refine va_getsN (C := RX8) S.1 S.2.1 hT.2.1.1 hS S.2.2.2.1 (va_Nw.use rfl hK.2.2.2.2.2.2.2.2.2.2.1) (fun _ h => h) dX1_beside_15 ?_
  refine lv_iload_n S.1 S.2.1 dX1_beside_18 rfl (lv_at hl 3 rfl) ?_
  refine va_ti (v := .int (southL.getD wy.toNatClampNeg 0)) S.1 S.2.1 hT.2.1.2 hS (in_of (n := 8) (by  omega) (by  omega)) rfl dX1_beside_19 ?_
  refine lv_topi (fun x_5 ex_5 => ?_)
  have tx_5 := listR (lo := -1) (hi := 1) (l := southL) (by decide) (by decide) ex_5
  have sox_5 := south_v (w := wy) (by first | (and_intros <;> first | with_reducible assumption | (refine Int.le_antisymm ?_ ?_ <;> omega) | omega) | omega) ex_5
  refine lv_iadd S.1 S.2.1 dX1_beside_20 ?_
  refine lv_topi (fun x_6 ex_6 => ?_)
  have tx_6 : x_6.toInt = x_4.toInt + (x_5.toInt) := addI (A := x_4.toInt) (B := x_5.toInt) ex_6 rfl rfl (by  omega) (by  omega)
  refine lv_istore (lv' := [(4, .int x_6), (3, .int x_3), (0, .ref ct), (1, .int k), (2, .int wy)]) S.1 S.2.1 dX1_beside_21 hl (by decide) rfl (fun ls hl => ?_)
  refine lv_iload_n S.1 S.2.1 dX1_beside_23 rfl (lv_at hl 1 rfl) ?_
  refine lv_if_lt (tgt := 59) S.1 S.2.1 dX1_beside_24 (by decide) (fun c_7 => ?_) (fun c_7 => ?_)
  · rw [lt2 (a := x_3) (b := 0) (A := x_3.toInt) (B := 0) rfl rfl] at c_7
    refine lv_iconst (v := (-1)) S.1 S.2.1 dX1_beside_59 (by decide) ?_
    have lqm1 : Int32.toInt (-1) = -1 := by decide
    exact b_iret S.1 S.2.1 X.2.1 X.2.2.1 hP hD hS ⟨(by first | with_reducible assumption | decide | (and_intros <;> first | with_reducible assumption | (intros; refine Int.le_antisymm ?_ ?_ <;> omega) | omega) | assumption | (rw [show Int32.toInt 0 = 0 from rfl]; omega)), (by unfold nbT; first | (rw [if_pos (by first | (and_intros <;> first | with_reducible assumption | (refine Int.le_antisymm ?_ ?_ <;> omega) | omega) | omega)]; omega) | (rw [if_neg (by first | (and_intros <;> first | with_reducible assumption | (refine Int.le_antisymm ?_ ?_ <;> omega) | omega) | omega)]; omega) | (rw [if_neg (by first | (and_intros <;> first | with_reducible assumption | (refine Int.le_antisymm ?_ ?_ <;> omega) | omega) | omega)]; rfl)), rfl⟩ dX1_beside_60
  · rw [lt2 (a := x_3) (b := 0) (A := x_3.toInt) (B := 0) rfl rfl] at c_7
    refine lv_iload_n S.1 S.2.1 dX1_beside_27 rfl (lv_at hl 1 rfl) ?_
    refine lv_aload_n S.1 S.2.1 dX1_beside_28 rfl (lv_at hl 2 rfl) ?_
    refine b_get (v := .int cw) S iX1 hK hP 0 rfl rfl 0 (by decide) (by decide +kernel) rfl dX1_beside_29 ?_
    refine lv_icmp_ge (tgt := 59) S.1 S.2.1 dX1_beside_32 (by decide) (fun c_8 => ?_) (fun c_8 => ?_)
    · rw [le2 (a := cw) (b := x_3) (A := cw.toInt) (B := x_3.toInt) rfl rfl] at c_8
      refine lv_iconst (v := (-1)) S.1 S.2.1 dX1_beside_59 (by decide) ?_
      have lqm1 : Int32.toInt (-1) = -1 := by decide
      exact b_iret S.1 S.2.1 X.2.1 X.2.2.1 hP hD hS ⟨(by first | with_reducible assumption | decide | (and_intros <;> first | with_reducible assumption | (intros; refine Int.le_antisymm ?_ ?_ <;> omega) | omega) | assumption | (rw [show Int32.toInt 0 = 0 from rfl]; omega)), (by unfold nbT; first | (rw [if_pos (by first | (and_intros <;> first | with_reducible assumption | (refine Int.le_antisymm ?_ ?_ <;> omega) | omega) | omega)]; omega) | (rw [if_neg (by first | (and_intros <;> first | with_reducible assumption | (refine Int.le_antisymm ?_ ?_ <;> omega) | omega) | omega)]; omega) | (rw [if_neg (by first | (and_intros <;> first | with_reducible assumption | (refine Int.le_antisymm ?_ ?_ <;> omega) | omega) | omega)]; rfl)), rfl⟩ dX1_beside_60
    · rw [le2 (a := cw) (b := x_3) (A := cw.toInt) (B := x_3.toInt) rfl rfl] at c_8
      refine lv_iload S.1 S.2.1 dX1_beside_35 (lv_at hl 0 rfl) ?_
      refine lv_if_lt (tgt := 59) S.1 S.2.1 dX1_beside_37 (by decide) (fun c_9 => ?_) (fun c_9 => ?_)
      · rw [lt2 (a := x_6) (b := 0) (A := x_6.toInt) (B := 0) rfl rfl] at c_9
        refine lv_iconst (v := (-1)) S.1 S.2.1 dX1_beside_59 (by decide) ?_
        have lqm1 : Int32.toInt (-1) = -1 := by decide
        exact b_iret S.1 S.2.1 X.2.1 X.2.2.1 hP hD hS ⟨(by first | with_reducible assumption | decide | (and_intros <;> first | with_reducible assumption | (intros; refine Int.le_antisymm ?_ ?_ <;> omega) | omega) | assumption | (rw [show Int32.toInt 0 = 0 from rfl]; omega)), (by unfold nbT; first | (rw [if_pos (by first | (and_intros <;> first | with_reducible assumption | (refine Int.le_antisymm ?_ ?_ <;> omega) | omega) | omega)]; omega) | (rw [if_neg (by first | (and_intros <;> first | with_reducible assumption | (refine Int.le_antisymm ?_ ?_ <;> omega) | omega) | omega)]; omega) | (rw [if_neg (by first | (and_intros <;> first | with_reducible assumption | (refine Int.le_antisymm ?_ ?_ <;> omega) | omega) | omega)]; rfl)), rfl⟩ dX1_beside_60
      · rw [lt2 (a := x_6) (b := 0) (A := x_6.toInt) (B := 0) rfl rfl] at c_9
        refine lv_iload S.1 S.2.1 dX1_beside_40 (lv_at hl 0 rfl) ?_
        refine lv_aload_n S.1 S.2.1 dX1_beside_42 rfl (lv_at hl 2 rfl) ?_
        refine b_get (v := .int ch) S iX1 hK hP 0 rfl rfl 1 (by decide) (by decide +kernel) rfl dX1_beside_43 ?_
        refine lv_icmp_ge (tgt := 59) S.1 S.2.1 dX1_beside_46 (by decide) (fun c_10 => ?_) (fun c_10 => ?_)
        · rw [le2 (a := ch) (b := x_6) (A := ch.toInt) (B := x_6.toInt) rfl rfl] at c_10
          refine lv_iconst (v := (-1)) S.1 S.2.1 dX1_beside_59 (by decide) ?_
          have lqm1 : Int32.toInt (-1) = -1 := by decide
          exact b_iret S.1 S.2.1 X.2.1 X.2.2.1 hP hD hS ⟨(by first | with_reducible assumption | decide | (and_intros <;> first | with_reducible assumption | (intros; refine Int.le_antisymm ?_ ?_ <;> omega) | omega) | assumption | (rw [show Int32.toInt 0 = 0 from rfl]; omega)), (by unfold nbT; first | (rw [if_pos (by first | (and_intros <;> first | with_reducible assumption | (refine Int.le_antisymm ?_ ?_ <;> omega) | omega) | omega)]; omega) | (rw [if_neg (by first | (and_intros <;> first | with_reducible assumption | (refine Int.le_antisymm ?_ ?_ <;> omega) | omega) | omega)]; omega) | (rw [if_neg (by first | (and_intros <;> first | with_reducible assumption | (refine Int.le_antisymm ?_ ?_ <;> omega) | omega) | omega)]; rfl)), rfl⟩ dX1_beside_60
        · rw [le2 (a := ch) (b := x_6) (A := ch.toInt) (B := x_6.toInt) rfl rfl] at c_10
          refine lv_iload_n S.1 S.2.1 dX1_beside_49 rfl (lv_at hl 1 rfl) ?_
          refine lv_bipush (v := (10)) S.1 S.2.1 dX1_beside_50 (by decide) ?_
          refine lv_iload S.1 S.2.1 dX1_beside_52 (lv_at hl 0 rfl) ?_
          refine lv_imul S.1 S.2.1 dX1_beside_54 ?_
          refine lv_topi (fun x_11 ex_11 => ?_)
          have tx_11 : x_11.toInt = 10 * x_6.toInt := mulI (A := 10) (B := x_6.toInt) ex_11 rfl rfl (by  omega) (by  omega)
          refine lv_iadd S.1 S.2.1 dX1_beside_55 ?_
          refine lv_topi (fun x_12 ex_12 => ?_)
          have tx_12 : x_12.toInt = x_3.toInt + (x_11.toInt) := addI (A := x_3.toInt) (B := x_11.toInt) ex_12 rfl rfl (by  omega) (by  omega)
          refine lv_goto (tgt := 60) S.1 S.2.1 dX1_beside_56 (by decide) ?_
          exact b_iret S.1 S.2.1 X.2.1 X.2.2.1 hP hD hS ⟨(by first | with_reducible assumption | decide | (and_intros <;> first | with_reducible assumption | (intros; refine Int.le_antisymm ?_ ?_ <;> omega) | omega) | assumption | (rw [show Int32.toInt 0 = 0 from rfl]; omega)), (by unfold nbT; first | (rw [if_pos (by first | (and_intros <;> first | with_reducible assumption | (refine Int.le_antisymm ?_ ?_ <;> omega) | omega) | omega)]; omega) | (rw [if_neg (by first | (and_intros <;> first | with_reducible assumption | (refine Int.le_antisymm ?_ ?_ <;> omega) | omega) | omega)]; omega) | (rw [if_neg (by first | (and_intros <;> first | with_reducible assumption | (refine Int.le_antisymm ?_ ?_ <;> omega) | omega) | omega)]; rfl)), rfl⟩ dX1_beside_60
set_option maxHeartbeats 4000000 in
set_option maxRecDepth 100000 in
theorem lp_openBeside {p : Program} (l : Launch) {e : Env} {s : State} {m : MethodId} {below : List Frame} {meth : Method} {c : Code} (D : va_G) (cI cZ cC cS : ClassId) (sq : Nat → Nat) (ct : Nat) (aCells : Nat) (k : Int32) (cw : Int32) (ch : Int32) (cp : Int32) (aPrices : Nat) (aFree : Nat) (aPlaces : Nat) (aHomes : Nat) (aManners : Nat) (aGone : Nat) (aPaid : Nat) (aBlinks : Nat) (fc : Nat → Int32) (hrg_fc : rng fc 80 (-1) (8)) (hw : 0 ≤ cw.toInt ∧ cw.toInt ≤ 10) (hh : 0 ≤ ch.toInt ∧ ch.toInt ≤ 8) (hk : 0 ≤ k.toInt ∧ k.toInt < 80) {A : Nat → Prop} (X : bX p s m meth c cX1_openBeside 4 wsX1_openBeside yX1_openBeside (some .int) [.ref ct, .int k]) (hK : kW D (tyW cI cZ cC cS) sq s) (hT : sT sq A s s.heap) (hA : ∀ q, s.heap.size ≤ q → A q) (K : ∀ (q : Int32) (i : Int32), (rng fc 80 (-1) (8)) → (0 ≤ i.toInt ∧ i.toInt ≤ 8 ∧ 0 ≤ q.toInt ∧ q.toInt ≤ i.toInt) → (q.toInt = cnA (obX cw.toInt ch.toInt fc k.toInt) i.toInt.toNat) → (8 ≤ i.toInt) → ∀ (H : Heap) (locs : List Loc) (ls : Array Slot), va_P D vwCl [(ct, .inr (1, [.int cw, .int ch, .int cp, .ref aCells, .ref aPrices, .ref aFree, .ref aPlaces, .ref aHomes, .ref aManners, .ref aGone, .ref aPaid, .ref aBlinks])), (aCells, .inl (cI, 80, .inl fc))] H → va_D A [(ct, .inr (1, [.int cw, .int ch, .int cp, .ref aCells, .ref aPrices, .ref aFree, .ref aPlaces, .ref aHomes, .ref aManners, .ref aGone, .ref aPaid, .ref aBlinks])), (aCells, .inl (cI, 80, .inl fc))] → va_S A s.heap H locs → lv_has ls 4 [(3, .int i), (2, .int q), (0, .ref ct), (1, .int k)] → W p l e (rmW 2 80 0 0) s m ([.ref ct, .int k] : List Value).toArray below meth c H locs 0 0 (MQ below (va_Qi (fun r w => ((r.toInt = cnA (obX cw.toInt ch.toInt fc k.toInt) 8) ∧ w = [(ct, .inr (1, [.int cw, .int ch, .int cp, .ref aCells, .ref aPrices, .ref aFree, .ref aPlaces, .ref aHomes, .ref aManners, .ref aGone, .ref aPaid, .ref aBlinks])), (aCells, .inl (cI, 80, .inl fc))])) (wD D A) A) ([.ref ct, .int k] : List Value).toArray s 0 0 A) (F0 m 32 ls [])) : ∀ (mN : Nat) (q : Int32) (i : Int32), (rng fc 80 (-1) (8)) → (0 ≤ i.toInt ∧ i.toInt ≤ 8 ∧ 0 ≤ q.toInt ∧ q.toInt ≤ i.toInt) → (q.toInt = cnA (obX cw.toInt ch.toInt fc k.toInt) i.toInt.toNat) → ((8 - i.toInt).toNat < mN) → ∀ (H : Heap) (locs : List Loc) (ls : Array Slot), va_P D vwCl [(ct, .inr (1, [.int cw, .int ch, .int cp, .ref aCells, .ref aPrices, .ref aFree, .ref aPlaces, .ref aHomes, .ref aManners, .ref aGone, .ref aPaid, .ref aBlinks])), (aCells, .inl (cI, 80, .inl fc))] H → va_D A [(ct, .inr (1, [.int cw, .int ch, .int cp, .ref aCells, .ref aPrices, .ref aFree, .ref aPlaces, .ref aHomes, .ref aManners, .ref aGone, .ref aPaid, .ref aBlinks])), (aCells, .inl (cI, 80, .inl fc))] → va_S A s.heap H locs → lv_has ls 4 [(3, .int i), (2, .int q), (0, .ref ct), (1, .int k)] → W p l e (rmW 2 80 0 0) s m ([.ref ct, .int k] : List Value).toArray below meth c H locs 0 0 (MQ below (va_Qi (fun r w => ((r.toInt = cnA (obX cw.toInt ch.toInt fc k.toInt) 8) ∧ w = [(ct, .inr (1, [.int cw, .int ch, .int cp, .ref aCells, .ref aPrices, .ref aFree, .ref aPlaces, .ref aHomes, .ref aManners, .ref aGone, .ref aPaid, .ref aBlinks])), (aCells, .inl (cI, 80, .inl fc))])) (wD D A) A) ([.ref ct, .int k] : List Value).toArray s 0 0 A) (F0 m 4 ls []) := by
  have S : CallFix p m c cX1_openBeside 4 s ([.ref ct, .int k] : List Value).toArray wsX1_openBeside RX1 := X.1
  intro mN
  induction mN with
  | zero => intro q i hrg_fc hi hcn hm; exact absurd hm (Nat.not_lt_zero _)
  | succ mN ih =>
    intro q i hrg_fc hi hcn hm H locs ls hP hD hS hl
    refine lv_iload_n S.1 S.2.1 dX1_openBeside_4 rfl (lv_at hl 0 rfl) ?_
    refine lv_bipush (v := (8)) S.1 S.2.1 dX1_openBeside_5 (by decide) ?_
    refine lv_icmp_ge (tgt := 32) S.1 S.2.1 dX1_openBeside_7 (by decide) (fun c_101 => ?_) (fun c_101 => ?_)
    · rw [le2 (a := 8) (b := i) (A := 8) (B := i.toInt) rfl rfl] at c_101
      exact K q i (by first | with_reducible assumption | assumption | omega | decide | (rw [show Int32.toInt 0 = 0 from rfl]; omega)) (by first | with_reducible assumption | decide | (and_intros <;> first | with_reducible assumption | (intros; refine Int.le_antisymm ?_ ?_ <;> omega) | omega) | assumption | (rw [show Int32.toInt 0 = 0 from rfl]; omega)) (by first | assumption | exact cnA_y hcn (ob_y (by first | with_reducible assumption | assumption) (by first | (and_intros <;> first | with_reducible assumption | (refine Int.le_antisymm ?_ ?_ <;> omega) | omega) | omega) (by first | with_reducible assumption | assumption)) (by first | (and_intros <;> first | with_reducible assumption | (refine Int.le_antisymm ?_ ?_ <;> omega) | omega) | omega) (by first | (and_intros <;> first | with_reducible assumption | (refine Int.le_antisymm ?_ ?_ <;> omega) | omega) | omega) (by first | (and_intros <;> first | with_reducible assumption | (refine Int.le_antisymm ?_ ?_ <;> omega) | omega) | omega) | exact cnA_n hcn (ob_n (by first | with_reducible assumption | assumption) (by first | (and_intros <;> first | with_reducible assumption | (refine Int.le_antisymm ?_ ?_ <;> omega) | omega) | omega) (by first | (and_intros <;> first | with_reducible assumption | (refine Int.le_antisymm ?_ ?_ <;> omega) | omega) | omega) (by first | with_reducible assumption | assumption)) (by first | (and_intros <;> first | with_reducible assumption | (refine Int.le_antisymm ?_ ?_ <;> omega) | omega) | omega) (by first | (and_intros <;> first | with_reducible assumption | (refine Int.le_antisymm ?_ ?_ <;> omega) | omega) | omega)) (by first | with_reducible assumption | decide | (and_intros <;> first | with_reducible assumption | (intros; refine Int.le_antisymm ?_ ?_ <;> omega) | omega) | assumption | (rw [show Int32.toInt 0 = 0 from rfl]; omega)) H _ ls hP hD hS (lv_sub hl [0, 1, 2, 3] rfl)
    · rw [le2 (a := 8) (b := i) (A := 8) (B := i.toInt) rfl rfl] at c_101
      refine lv_aload_n S.1 S.2.1 dX1_openBeside_10 rfl (lv_at hl 2 rfl) ?_
      refine lv_aload_n S.1 S.2.1 dX1_openBeside_11 rfl (lv_at hl 2 rfl) ?_
      refine lv_iload_n S.1 S.2.1 dX1_openBeside_12 rfl (lv_at hl 3 rfl) ?_
      refine lv_iload_n S.1 S.2.1 dX1_openBeside_13 rfl (lv_at hl 0 rfl) ?_
      refine b_ai (wr := [(aCells, .inl (cI, 80, .inl fc))]) (b_runV (q0 := 0) (ci := 1) (As := [.int k, .int i]) (s_X1_beside l D cI cZ cC cS sq H.size ct k i cw ch cp aCells aPrices aFree aPlaces aHomes aManners aGone aPaid aBlinks (by first | with_reducible assumption | decide | (and_intros <;> first | with_reducible assumption | (intros; refine Int.le_antisymm ?_ ?_ <;> omega) | omega) | assumption | (rw [show Int32.toInt 0 = 0 from rfl]; omega)) (by first | with_reducible assumption | decide | (and_intros <;> first | with_reducible assumption | (intros; refine Int.le_antisymm ?_ ?_ <;> omega) | omega) | assumption | (rw [show Int32.toInt 0 = 0 from rfl]; omega)) (by first | with_reducible assumption | decide | (and_intros <;> first | with_reducible assumption | (intros; refine Int.le_antisymm ?_ ?_ <;> omega) | omega) | assumption | (rw [show Int32.toInt 0 = 0 from rfl]; omega)) (by first | with_reducible assumption | decide | (and_intros <;> first | with_reducible assumption | (intros; refine Int.le_antisymm ?_ ?_ <;> omega) | omega) | assumption | (rw [show Int32.toInt 0 = 0 from rfl]; omega))) S gX1_openBeside_X1_beside rfl hdV_X1_beside ⟨Nat.le_of_ble_eq_true rfl, Nat.le_of_ble_eq_true rfl⟩ ⟨Nat.le_of_ble_eq_true rfl, Nat.le_of_ble_eq_true rfl⟩ hK hT hS hA hP hD rfl rfl [0] rfl (by decide) rfl hl.1 rfl (Nat.le_of_ble_eq_true rfl) dX1_openBeside_14) hP hD hS hA [0] [1] rfl rfl (by decide) (by decide) (fun r_102 w_103 H locs hw_104 hP hD hS => ?_)
      obtain ⟨hf_105, hf_106, rfl⟩ := hw_104
      have hP : va_P D vwCl [(aCells, .inl (cI, 80, .inl fc)), (ct, .inr (1, [.int cw, .int ch, .int cp, .ref aCells, .ref aPrices, .ref aFree, .ref aPlaces, .ref aHomes, .ref aManners, .ref aGone, .ref aPaid, .ref aBlinks]))] H := hP
      have hD : va_D A [(aCells, .inl (cI, 80, .inl fc)), (ct, .inr (1, [.int cw, .int ch, .int cp, .ref aCells, .ref aPrices, .ref aFree, .ref aPlaces, .ref aHomes, .ref aManners, .ref aGone, .ref aPaid, .ref aBlinks]))] := hD
      refine b_ai (wr := []) (b_runV (q0 := 1) (ci := 1) (As := [.int r_102]) (s_X1_isOpen l D cI cZ cC cS sq H.size ct aCells r_102 cw ch cp aPrices aFree aPlaces aHomes aManners aGone aPaid aBlinks fc (by first | with_reducible assumption | assumption | omega | decide | (rw [show Int32.toInt 0 = 0 from rfl]; omega)) (by first | with_reducible assumption | decide | (and_intros <;> first | with_reducible assumption | (intros; refine Int.le_antisymm ?_ ?_ <;> omega) | omega) | assumption | (rw [show Int32.toInt 0 = 0 from rfl]; omega)) (by first | with_reducible assumption | decide | (and_intros <;> first | with_reducible assumption | (intros; refine Int.le_antisymm ?_ ?_ <;> omega) | omega) | assumption | (rw [show Int32.toInt 0 = 0 from rfl]; omega))) S gX1_openBeside_X1_isOpen rfl hdV_X1_isOpen ⟨Nat.le_of_ble_eq_true rfl, Nat.le_of_ble_eq_true rfl⟩ ⟨Nat.le_of_ble_eq_true rfl, Nat.le_of_ble_eq_true rfl⟩ hK hT hS hA hP hD rfl rfl [1, 0] rfl (by decide) rfl hl.1 rfl (Nat.le_of_ble_eq_true rfl) dX1_openBeside_17) hP hD hS hA [1, 0] [] rfl rfl (by decide) (by decide) (fun r_107 w_108 H locs hw_109 hP hD hS => ?_)
      rcases hw_109 with ⟨hf_110, hf_111, rfl, rfl⟩ | ⟨hf_112, rfl, rfl⟩
      · have hP : va_P D vwCl [(ct, .inr (1, [.int cw, .int ch, .int cp, .ref aCells, .ref aPrices, .ref aFree, .ref aPlaces, .ref aHomes, .ref aManners, .ref aGone, .ref aPaid, .ref aBlinks])), (aCells, .inl (cI, 80, .inl fc))] H := hP
        have hD : va_D A [(ct, .inr (1, [.int cw, .int ch, .int cp, .ref aCells, .ref aPrices, .ref aFree, .ref aPlaces, .ref aHomes, .ref aManners, .ref aGone, .ref aPaid, .ref aBlinks])), (aCells, .inl (cI, 80, .inl fc))] := hD
        refine lv_if_eq (tgt := 26) S.1 S.2.1 dX1_openBeside_20 (by decide) (fun c_113 => absurd c_113 (by decide)) (fun c_113 => ?_)
        obtain ⟨x_114, ex_114⟩ : ∃ y : Int32, y = q + Int32.ofInt (1) := ⟨_, rfl⟩
        refine lv_iinc (v := x_114) (lv' := [(2, .int x_114), (3, .int i), (0, .ref ct), (1, .int k)]) S.1 S.2.1 dX1_openBeside_23 hl (k := 1) rfl ex_114.symm (by decide) rfl (fun ls hl => ?_)
        have tx_114 : x_114.toInt = q.toInt + (1) := addI (A := q.toInt) (B := 1) ex_114 rfl rfl (by  omega) (by  omega)
        obtain ⟨x_115, ex_115⟩ : ∃ y : Int32, y = i + Int32.ofInt (1) := ⟨_, rfl⟩
        refine lv_iinc (v := x_115) (lv' := [(3, .int x_115), (2, .int x_114), (0, .ref ct), (1, .int k)]) S.1 S.2.1 dX1_openBeside_26 hl (k := 1) rfl ex_115.symm (by decide) rfl (fun ls hl => ?_)
        have tx_115 : x_115.toInt = i.toInt + (1) := addI (A := i.toInt) (B := 1) ex_115 rfl rfl (by  omega) (by  omega)
        refine lv_goto (tgt := 4) S.1 S.2.1 dX1_openBeside_29 (by decide) ?_
        exact ih x_114 x_115 (by first | with_reducible assumption | assumption | omega | decide | (rw [show Int32.toInt 0 = 0 from rfl]; omega)) (by first | with_reducible assumption | decide | (and_intros <;> first | with_reducible assumption | (intros; refine Int.le_antisymm ?_ ?_ <;> omega) | omega) | assumption | (rw [show Int32.toInt 0 = 0 from rfl]; omega)) (by first | assumption | exact cnA_y hcn (ob_y (by first | with_reducible assumption | assumption) (by first | (and_intros <;> first | with_reducible assumption | (refine Int.le_antisymm ?_ ?_ <;> omega) | omega) | omega) (by first | with_reducible assumption | assumption)) (by first | (and_intros <;> first | with_reducible assumption | (refine Int.le_antisymm ?_ ?_ <;> omega) | omega) | omega) (by first | (and_intros <;> first | with_reducible assumption | (refine Int.le_antisymm ?_ ?_ <;> omega) | omega) | omega) (by first | (and_intros <;> first | with_reducible assumption | (refine Int.le_antisymm ?_ ?_ <;> omega) | omega) | omega) | exact cnA_n hcn (ob_n (by first | with_reducible assumption | assumption) (by first | (and_intros <;> first | with_reducible assumption | (refine Int.le_antisymm ?_ ?_ <;> omega) | omega) | omega) (by first | (and_intros <;> first | with_reducible assumption | (refine Int.le_antisymm ?_ ?_ <;> omega) | omega) | omega) (by first | with_reducible assumption | assumption)) (by first | (and_intros <;> first | with_reducible assumption | (refine Int.le_antisymm ?_ ?_ <;> omega) | omega) | omega) (by first | (and_intros <;> first | with_reducible assumption | (refine Int.le_antisymm ?_ ?_ <;> omega) | omega) | omega)) (by first | (and_intros <;> first | with_reducible assumption | (refine Int.le_antisymm ?_ ?_ <;> omega) | omega) | omega) H _ ls hP hD hS (lv_sub hl [0, 1, 2, 3] rfl)
      · have hP : va_P D vwCl [(ct, .inr (1, [.int cw, .int ch, .int cp, .ref aCells, .ref aPrices, .ref aFree, .ref aPlaces, .ref aHomes, .ref aManners, .ref aGone, .ref aPaid, .ref aBlinks])), (aCells, .inl (cI, 80, .inl fc))] H := hP
        have hD : va_D A [(ct, .inr (1, [.int cw, .int ch, .int cp, .ref aCells, .ref aPrices, .ref aFree, .ref aPlaces, .ref aHomes, .ref aManners, .ref aGone, .ref aPaid, .ref aBlinks])), (aCells, .inl (cI, 80, .inl fc))] := hD
        refine lv_if_eq (tgt := 26) S.1 S.2.1 dX1_openBeside_20 (by decide) (fun c_116 => ?_) (fun c_116 => absurd c_116 (by decide))
        obtain ⟨x_117, ex_117⟩ : ∃ y : Int32, y = i + Int32.ofInt (1) := ⟨_, rfl⟩
        refine lv_iinc (v := x_117) (lv' := [(3, .int x_117), (2, .int q), (0, .ref ct), (1, .int k)]) S.1 S.2.1 dX1_openBeside_26 hl (k := 0) rfl ex_117.symm (by decide) rfl (fun ls hl => ?_)
        have tx_117 : x_117.toInt = i.toInt + (1) := addI (A := i.toInt) (B := 1) ex_117 rfl rfl (by  omega) (by  omega)
        refine lv_goto (tgt := 4) S.1 S.2.1 dX1_openBeside_29 (by decide) ?_
        exact ih q x_117 (by first | with_reducible assumption | assumption | omega | decide | (rw [show Int32.toInt 0 = 0 from rfl]; omega)) (by first | with_reducible assumption | decide | (and_intros <;> first | with_reducible assumption | (intros; refine Int.le_antisymm ?_ ?_ <;> omega) | omega) | assumption | (rw [show Int32.toInt 0 = 0 from rfl]; omega)) (by first | assumption | exact cnA_y hcn (ob_y (by first | with_reducible assumption | assumption) (by first | (and_intros <;> first | with_reducible assumption | (refine Int.le_antisymm ?_ ?_ <;> omega) | omega) | omega) (by first | with_reducible assumption | assumption)) (by first | (and_intros <;> first | with_reducible assumption | (refine Int.le_antisymm ?_ ?_ <;> omega) | omega) | omega) (by first | (and_intros <;> first | with_reducible assumption | (refine Int.le_antisymm ?_ ?_ <;> omega) | omega) | omega) (by first | (and_intros <;> first | with_reducible assumption | (refine Int.le_antisymm ?_ ?_ <;> omega) | omega) | omega) | exact cnA_n hcn (ob_n (by first | with_reducible assumption | assumption) (by first | (and_intros <;> first | with_reducible assumption | (refine Int.le_antisymm ?_ ?_ <;> omega) | omega) | omega) (by first | (and_intros <;> first | with_reducible assumption | (refine Int.le_antisymm ?_ ?_ <;> omega) | omega) | omega) (by first | with_reducible assumption | assumption)) (by first | (and_intros <;> first | with_reducible assumption | (refine Int.le_antisymm ?_ ?_ <;> omega) | omega) | omega) (by first | (and_intros <;> first | with_reducible assumption | (refine Int.le_antisymm ?_ ?_ <;> omega) | omega) | omega)) (by first | (and_intros <;> first | with_reducible assumption | (refine Int.le_antisymm ?_ ?_ <;> omega) | omega) | omega) H _ ls hP hD hS (lv_sub hl [0, 1, 2, 3] rfl)
set_option maxHeartbeats 4000000 in
set_option maxRecDepth 100000 in
theorem s_X1_openBeside (l : Launch) (D : va_G) (cI cZ cC cS : ClassId) (sq : Nat → Nat) (sz : Nat) (ct : Nat) (aCells : Nat) (k : Int32) (cw : Int32) (ch : Int32) (cp : Int32) (aPrices : Nat) (aFree : Nat) (aPlaces : Nat) (aHomes : Nat) (aManners : Nat) (aGone : Nat) (aPaid : Nat) (aBlinks : Nat) (fc : Nat → Int32) (hrg_fc : rng fc 80 (-1) (8)) (hw : 0 ≤ cw.toInt ∧ cw.toInt ≤ 10) (hh : 0 ≤ ch.toInt ∧ ch.toInt ≤ 8) (hk : 0 ≤ k.toInt ∧ k.toInt < 80) : mI l yX1_openBeside wsX1_openBeside 2 80 D (tyW cI cZ cC cS) sq [(ct, .inr (1, [.int cw, .int ch, .int cp, .ref aCells, .ref aPrices, .ref aFree, .ref aPlaces, .ref aHomes, .ref aManners, .ref aGone, .ref aPaid, .ref aBlinks])), (aCells, .inl (cI, 80, .inl fc))] sz [.ref ct, .int k] (fun r w => ((r.toInt = cnA (obX cw.toInt ch.toInt fc k.toInt) 8) ∧ w = [(ct, .inr (1, [.int cw, .int ch, .int cp, .ref aCells, .ref aPrices, .ref aFree, .ref aPlaces, .ref aHomes, .ref aManners, .ref aGone, .ref aPaid, .ref aBlinks])), (aCells, .inl (cI, 80, .inl fc))])) := by
  refine b_metI (cc := cX1_openBeside) (maxL := 4) (ret := (some .int)) (by decide) rfl (Nat.le_of_ble_eq_true rfl) ?_
  intro p e s m below meth c ls A H X hsz hP hK hT hD hA hS hl
  have S : CallFix p m c cX1_openBeside 4 s ([.ref ct, .int k] : List Value).toArray wsX1_openBeside RX1 := X.1
  have hl : lv_has ls 4 [(0, .ref ct), (1, .int k)] := hl
  refine lv_iconst (v := (0)) S.1 S.2.1 dX1_openBeside_0 (by decide) ?_
  refine lv_istore_n (lv' := [(2, .int 0), (0, .ref ct), (1, .int k)]) S.1 S.2.1 dX1_openBeside_1 rfl hl (by decide) rfl (fun ls hl => ?_)
  refine lv_iconst (v := (0)) S.1 S.2.1 dX1_openBeside_2 (by decide) ?_
  refine lv_istore_n (lv' := [(3, .int 0), (2, .int 0), (0, .ref ct), (1, .int k)]) S.1 S.2.1 dX1_openBeside_3 rfl hl (by decide) rfl (fun ls hl => ?_)
  refine lp_openBeside l D cI cZ cC cS sq ct aCells k cw ch cp aPrices aFree aPlaces aHomes aManners aGone aPaid aBlinks fc hrg_fc hw hh hk X hK hT hA (fun q_1 i_2 hi_3 hi_4 hi_5 hi_6 H locs ls hP hD hS hl => ?_) _ (0) (0) (by first | with_reducible assumption | assumption | omega | decide | (rw [show Int32.toInt 0 = 0 from rfl]; omega)) (by first | with_reducible assumption | decide | (and_intros <;> first | with_reducible assumption | (intros; refine Int.le_antisymm ?_ ?_ <;> omega) | omega) | assumption | (rw [show Int32.toInt 0 = 0 from rfl]; omega)) rfl (Nat.lt_succ_self _) H _ ls hP hD hS (lv_sub hl [0, 1, 2, 3] rfl)
  refine lv_iload_n S.1 S.2.1 dX1_openBeside_32 rfl (lv_at hl 1 rfl) ?_
  exact b_iret S.1 S.2.1 X.2.1 X.2.2.1 hP hD hS ⟨(cnA_i8 (by first | with_reducible assumption | assumption) (by first | (and_intros <;> first | with_reducible assumption | (refine Int.le_antisymm ?_ ?_ <;> omega) | omega) | omega) (by first | (and_intros <;> first | with_reducible assumption | (refine Int.le_antisymm ?_ ?_ <;> omega) | omega) | omega)), rfl⟩ dX1_openBeside_33
theorem cnA_80 {P : Nat → Prop} {q i : Int} (h : q = cnA P i.toNat) (h1 : 80 ≤ i) (h2 : i ≤ 80) : q = cnA P 80 := by rw [h, show i.toNat = 80 from by omega]
set_option maxHeartbeats 4000000 in
set_option maxRecDepth 100000 in
theorem lp_fronts {p : Program} (l : Launch) {e : Env} {s : State} {m : MethodId} {below : List Frame} {meth : Method} {c : Code} (D : va_G) (cI cZ cC cS : ClassId) (sq : Nat → Nat) (ct : Nat) (aCells : Nat) (cw : Int32) (ch : Int32) (cp : Int32) (aPrices : Nat) (aFree : Nat) (aPlaces : Nat) (aHomes : Nat) (aManners : Nat) (aGone : Nat) (aPaid : Nat) (aBlinks : Nat) (fc : Nat → Int32) (hrg_fc : rng fc 80 (-1) (8)) (hw : 0 ≤ cw.toInt ∧ cw.toInt ≤ 10) (hh : 0 ≤ ch.toInt ∧ ch.toInt ≤ 8) {A : Nat → Prop} (X : bX p s m meth c cX1_fronts 3 wsX1_fronts yX1_fronts (some .int) [.ref ct]) (hK : kW D (tyW cI cZ cC cS) sq s) (hT : sT sq A s s.heap) (hA : ∀ q, s.heap.size ≤ q → A q) (K : ∀ (q : Int32) (i : Int32), (rng fc 80 (-1) (8)) → (0 ≤ i.toInt ∧ i.toInt ≤ 80 ∧ 0 ≤ q.toInt ∧ q.toInt ≤ i.toInt) → (q.toInt = cnA (frX cw.toInt ch.toInt fc) i.toInt.toNat) → (80 ≤ i.toInt) → ∀ (H : Heap) (locs : List Loc) (ls : Array Slot), va_P D vwCl [(ct, .inr (1, [.int cw, .int ch, .int cp, .ref aCells, .ref aPrices, .ref aFree, .ref aPlaces, .ref aHomes, .ref aManners, .ref aGone, .ref aPaid, .ref aBlinks])), (aCells, .inl (cI, 80, .inl fc))] H → va_D A [(ct, .inr (1, [.int cw, .int ch, .int cp, .ref aCells, .ref aPrices, .ref aFree, .ref aPlaces, .ref aHomes, .ref aManners, .ref aGone, .ref aPaid, .ref aBlinks])), (aCells, .inl (cI, 80, .inl fc))] → va_S A s.heap H locs → lv_has ls 3 [(2, .int i), (1, .int q), (0, .ref ct)] → W p l e (rmW 2 80 0 0) s m ([.ref ct] : List Value).toArray below meth c H locs 0 0 (MQ below (va_Qi (fun r w => ((r.toInt = cnA (frX cw.toInt ch.toInt fc) 80) ∧ w = [(ct, .inr (1, [.int cw, .int ch, .int cp, .ref aCells, .ref aPrices, .ref aFree, .ref aPlaces, .ref aHomes, .ref aManners, .ref aGone, .ref aPaid, .ref aBlinks])), (aCells, .inl (cI, 80, .inl fc))])) (wD D A) A) ([.ref ct] : List Value).toArray s 0 0 A) (F0 m 29 ls [])) : ∀ (mN : Nat) (q : Int32) (i : Int32), (rng fc 80 (-1) (8)) → (0 ≤ i.toInt ∧ i.toInt ≤ 80 ∧ 0 ≤ q.toInt ∧ q.toInt ≤ i.toInt) → (q.toInt = cnA (frX cw.toInt ch.toInt fc) i.toInt.toNat) → ((80 - i.toInt).toNat < mN) → ∀ (H : Heap) (locs : List Loc) (ls : Array Slot), va_P D vwCl [(ct, .inr (1, [.int cw, .int ch, .int cp, .ref aCells, .ref aPrices, .ref aFree, .ref aPlaces, .ref aHomes, .ref aManners, .ref aGone, .ref aPaid, .ref aBlinks])), (aCells, .inl (cI, 80, .inl fc))] H → va_D A [(ct, .inr (1, [.int cw, .int ch, .int cp, .ref aCells, .ref aPrices, .ref aFree, .ref aPlaces, .ref aHomes, .ref aManners, .ref aGone, .ref aPaid, .ref aBlinks])), (aCells, .inl (cI, 80, .inl fc))] → va_S A s.heap H locs → lv_has ls 3 [(2, .int i), (1, .int q), (0, .ref ct)] → W p l e (rmW 2 80 0 0) s m ([.ref ct] : List Value).toArray below meth c H locs 0 0 (MQ below (va_Qi (fun r w => ((r.toInt = cnA (frX cw.toInt ch.toInt fc) 80) ∧ w = [(ct, .inr (1, [.int cw, .int ch, .int cp, .ref aCells, .ref aPrices, .ref aFree, .ref aPlaces, .ref aHomes, .ref aManners, .ref aGone, .ref aPaid, .ref aBlinks])), (aCells, .inl (cI, 80, .inl fc))])) (wD D A) A) ([.ref ct] : List Value).toArray s 0 0 A) (F0 m 4 ls []) := by
  have S : CallFix p m c cX1_fronts 3 s ([.ref ct] : List Value).toArray wsX1_fronts RX1 := X.1
  intro mN
  induction mN with
  | zero => intro q i hrg_fc hi hq hm; exact absurd hm (Nat.not_lt_zero _)
  | succ mN ih =>
    intro q i hrg_fc hi hq hm H locs ls hP hD hS hl
    refine lv_iload_n S.1 S.2.1 dX1_fronts_4 rfl (lv_at hl 0 rfl) ?_
    refine lv_bipush (v := (80)) S.1 S.2.1 dX1_fronts_5 (by decide) ?_
    refine lv_icmp_ge (tgt := 29) S.1 S.2.1 dX1_fronts_7 (by decide) (fun c_101 => ?_) (fun c_101 => ?_)
    · rw [le2 (a := 80) (b := i) (A := 80) (B := i.toInt) rfl rfl] at c_101
      exact K q i (by first | with_reducible assumption | assumption | omega | decide | (rw [show Int32.toInt 0 = 0 from rfl]; omega)) (by first | with_reducible assumption | decide | (and_intros <;> first | with_reducible assumption | (intros; refine Int.le_antisymm ?_ ?_ <;> omega) | omega) | assumption | (rw [show Int32.toInt 0 = 0 from rfl]; omega)) (by first | assumption | exact cnA_y hq (by unfold frX; omega) (by first | (and_intros <;> first | with_reducible assumption | (refine Int.le_antisymm ?_ ?_ <;> omega) | omega) | omega) (by first | (and_intros <;> first | with_reducible assumption | (refine Int.le_antisymm ?_ ?_ <;> omega) | omega) | omega) (by first | (and_intros <;> first | with_reducible assumption | (refine Int.le_antisymm ?_ ?_ <;> omega) | omega) | omega) | exact cnA_n hq (by unfold frX; omega) (by first | (and_intros <;> first | with_reducible assumption | (refine Int.le_antisymm ?_ ?_ <;> omega) | omega) | omega) (by first | (and_intros <;> first | with_reducible assumption | (refine Int.le_antisymm ?_ ?_ <;> omega) | omega) | omega)) (by first | with_reducible assumption | decide | (and_intros <;> first | with_reducible assumption | (intros; refine Int.le_antisymm ?_ ?_ <;> omega) | omega) | assumption | (rw [show Int32.toInt 0 = 0 from rfl]; omega)) H _ ls hP hD hS (lv_sub hl [0, 1, 2] rfl)
    · rw [le2 (a := 80) (b := i) (A := 80) (B := i.toInt) rfl rfl] at c_101
      refine lv_aload_n S.1 S.2.1 dX1_fronts_10 rfl (lv_at hl 2 rfl) ?_
      refine lv_iload_n S.1 S.2.1 dX1_fronts_11 rfl (lv_at hl 0 rfl) ?_
      refine b_ai (wr := []) (b_runV (q0 := 0) (ci := 1) (As := [.int i]) (s_X1_ownerOf l D cI cZ cC cS sq H.size ct aCells i cw ch cp aPrices aFree aPlaces aHomes aManners aGone aPaid aBlinks fc (by first | with_reducible assumption | assumption | omega | decide | (rw [show Int32.toInt 0 = 0 from rfl]; omega)) (by first | with_reducible assumption | decide | (and_intros <;> first | with_reducible assumption | (intros; refine Int.le_antisymm ?_ ?_ <;> omega) | omega) | assumption | (rw [show Int32.toInt 0 = 0 from rfl]; omega)) (by first | with_reducible assumption | decide | (and_intros <;> first | with_reducible assumption | (intros; refine Int.le_antisymm ?_ ?_ <;> omega) | omega) | assumption | (rw [show Int32.toInt 0 = 0 from rfl]; omega))) S gX1_fronts_X1_ownerOf rfl hdV_X1_ownerOf ⟨Nat.le_of_ble_eq_true rfl, Nat.le_of_ble_eq_true rfl⟩ ⟨Nat.le_of_ble_eq_true rfl, Nat.le_of_ble_eq_true rfl⟩ hK hT hS hA hP hD rfl rfl [0, 1] rfl (by decide) rfl hl.1 rfl (Nat.le_of_ble_eq_true rfl) dX1_fronts_12) hP hD hS hA [0, 1] [] rfl rfl (by decide) (by decide) (fun r_102 w_103 H locs hw_104 hP hD hS => ?_)
      obtain ⟨hf_105, hf_106, rfl⟩ := hw_104
      have hP : va_P D vwCl [(ct, .inr (1, [.int cw, .int ch, .int cp, .ref aCells, .ref aPrices, .ref aFree, .ref aPlaces, .ref aHomes, .ref aManners, .ref aGone, .ref aPaid, .ref aBlinks])), (aCells, .inl (cI, 80, .inl fc))] H := hP
      have hD : va_D A [(ct, .inr (1, [.int cw, .int ch, .int cp, .ref aCells, .ref aPrices, .ref aFree, .ref aPlaces, .ref aHomes, .ref aManners, .ref aGone, .ref aPaid, .ref aBlinks])), (aCells, .inl (cI, 80, .inl fc))] := hD
      refine lv_bipush (v := (6)) S.1 S.2.1 dX1_fronts_15 (by decide) ?_
      refine lv_icmp_eq (tgt := 23) S.1 S.2.1 dX1_fronts_17 (by decide) (fun c_107 => ?_) (fun c_107 => ?_)
      · rw [eq2 (a := r_102) (b := 6) (A := r_102.toInt) (B := 6) rfl rfl] at c_107
        obtain ⟨x_108, ex_108⟩ : ∃ y : Int32, y = i + Int32.ofInt (1) := ⟨_, rfl⟩
        refine lv_iinc (v := x_108) (lv' := [(2, .int x_108), (1, .int q), (0, .ref ct)]) S.1 S.2.1 dX1_fronts_23 hl (k := 0) rfl ex_108.symm (by decide) rfl (fun ls hl => ?_)
        have tx_108 : x_108.toInt = i.toInt + (1) := addI (A := i.toInt) (B := 1) ex_108 rfl rfl (by  omega) (by  omega)
        refine lv_goto (tgt := 4) S.1 S.2.1 dX1_fronts_26 (by decide) ?_
        exact ih q x_108 (by first | with_reducible assumption | assumption | omega | decide | (rw [show Int32.toInt 0 = 0 from rfl]; omega)) (by first | with_reducible assumption | decide | (and_intros <;> first | with_reducible assumption | (intros; refine Int.le_antisymm ?_ ?_ <;> omega) | omega) | assumption | (rw [show Int32.toInt 0 = 0 from rfl]; omega)) (by first | assumption | exact cnA_y hq (by unfold frX; omega) (by first | (and_intros <;> first | with_reducible assumption | (refine Int.le_antisymm ?_ ?_ <;> omega) | omega) | omega) (by first | (and_intros <;> first | with_reducible assumption | (refine Int.le_antisymm ?_ ?_ <;> omega) | omega) | omega) (by first | (and_intros <;> first | with_reducible assumption | (refine Int.le_antisymm ?_ ?_ <;> omega) | omega) | omega) | exact cnA_n hq (by unfold frX; omega) (by first | (and_intros <;> first | with_reducible assumption | (refine Int.le_antisymm ?_ ?_ <;> omega) | omega) | omega) (by first | (and_intros <;> first | with_reducible assumption | (refine Int.le_antisymm ?_ ?_ <;> omega) | omega) | omega)) (by first | (and_intros <;> first | with_reducible assumption | (refine Int.le_antisymm ?_ ?_ <;> omega) | omega) | omega) H _ ls hP hD hS (lv_sub hl [0, 1, 2] rfl)
      · rw [eq2 (a := r_102) (b := 6) (A := r_102.toInt) (B := 6) rfl rfl] at c_107
        obtain ⟨x_109, ex_109⟩ : ∃ y : Int32, y = q + Int32.ofInt (1) := ⟨_, rfl⟩
        refine lv_iinc (v := x_109) (lv' := [(1, .int x_109), (2, .int i), (0, .ref ct)]) S.1 S.2.1 dX1_fronts_20 hl (k := 1) rfl ex_109.symm (by decide) rfl (fun ls hl => ?_)
        have tx_109 : x_109.toInt = q.toInt + (1) := addI (A := q.toInt) (B := 1) ex_109 rfl rfl (by  omega) (by  omega)
        obtain ⟨x_110, ex_110⟩ : ∃ y : Int32, y = i + Int32.ofInt (1) := ⟨_, rfl⟩
        refine lv_iinc (v := x_110) (lv' := [(2, .int x_110), (1, .int x_109), (0, .ref ct)]) S.1 S.2.1 dX1_fronts_23 hl (k := 1) rfl ex_110.symm (by decide) rfl (fun ls hl => ?_)
        have tx_110 : x_110.toInt = i.toInt + (1) := addI (A := i.toInt) (B := 1) ex_110 rfl rfl (by  omega) (by  omega)
        refine lv_goto (tgt := 4) S.1 S.2.1 dX1_fronts_26 (by decide) ?_
        exact ih x_109 x_110 (by first | with_reducible assumption | assumption | omega | decide | (rw [show Int32.toInt 0 = 0 from rfl]; omega)) (by first | with_reducible assumption | decide | (and_intros <;> first | with_reducible assumption | (intros; refine Int.le_antisymm ?_ ?_ <;> omega) | omega) | assumption | (rw [show Int32.toInt 0 = 0 from rfl]; omega)) (by first | assumption | exact cnA_y hq (by unfold frX; omega) (by first | (and_intros <;> first | with_reducible assumption | (refine Int.le_antisymm ?_ ?_ <;> omega) | omega) | omega) (by first | (and_intros <;> first | with_reducible assumption | (refine Int.le_antisymm ?_ ?_ <;> omega) | omega) | omega) (by first | (and_intros <;> first | with_reducible assumption | (refine Int.le_antisymm ?_ ?_ <;> omega) | omega) | omega) | exact cnA_n hq (by unfold frX; omega) (by first | (and_intros <;> first | with_reducible assumption | (refine Int.le_antisymm ?_ ?_ <;> omega) | omega) | omega) (by first | (and_intros <;> first | with_reducible assumption | (refine Int.le_antisymm ?_ ?_ <;> omega) | omega) | omega)) (by first | (and_intros <;> first | with_reducible assumption | (refine Int.le_antisymm ?_ ?_ <;> omega) | omega) | omega) H _ ls hP hD hS (lv_sub hl [0, 1, 2] rfl)
set_option maxHeartbeats 4000000 in
set_option maxRecDepth 100000 in
theorem s_X1_fronts (l : Launch) (D : va_G) (cI cZ cC cS : ClassId) (sq : Nat → Nat) (sz : Nat) (ct : Nat) (aCells : Nat) (cw : Int32) (ch : Int32) (cp : Int32) (aPrices : Nat) (aFree : Nat) (aPlaces : Nat) (aHomes : Nat) (aManners : Nat) (aGone : Nat) (aPaid : Nat) (aBlinks : Nat) (fc : Nat → Int32) (hrg_fc : rng fc 80 (-1) (8)) (hw : 0 ≤ cw.toInt ∧ cw.toInt ≤ 10) (hh : 0 ≤ ch.toInt ∧ ch.toInt ≤ 8) : mI l yX1_fronts wsX1_fronts 2 80 D (tyW cI cZ cC cS) sq [(ct, .inr (1, [.int cw, .int ch, .int cp, .ref aCells, .ref aPrices, .ref aFree, .ref aPlaces, .ref aHomes, .ref aManners, .ref aGone, .ref aPaid, .ref aBlinks])), (aCells, .inl (cI, 80, .inl fc))] sz [.ref ct] (fun r w => ((r.toInt = cnA (frX cw.toInt ch.toInt fc) 80) ∧ w = [(ct, .inr (1, [.int cw, .int ch, .int cp, .ref aCells, .ref aPrices, .ref aFree, .ref aPlaces, .ref aHomes, .ref aManners, .ref aGone, .ref aPaid, .ref aBlinks])), (aCells, .inl (cI, 80, .inl fc))])) := by
  refine b_metI (cc := cX1_fronts) (maxL := 3) (ret := (some .int)) (by decide) rfl (Nat.le_of_ble_eq_true rfl) ?_
  intro p e s m below meth c ls A H X hsz hP hK hT hD hA hS hl
  have S : CallFix p m c cX1_fronts 3 s ([.ref ct] : List Value).toArray wsX1_fronts RX1 := X.1
  have hl : lv_has ls 3 [(0, .ref ct)] := hl
  refine lv_iconst (v := (0)) S.1 S.2.1 dX1_fronts_0 (by decide) ?_
  refine lv_istore_n (lv' := [(1, .int 0), (0, .ref ct)]) S.1 S.2.1 dX1_fronts_1 rfl hl (by decide) rfl (fun ls hl => ?_)
  refine lv_iconst (v := (0)) S.1 S.2.1 dX1_fronts_2 (by decide) ?_
  refine lv_istore_n (lv' := [(2, .int 0), (1, .int 0), (0, .ref ct)]) S.1 S.2.1 dX1_fronts_3 rfl hl (by decide) rfl (fun ls hl => ?_)
  refine lp_fronts l D cI cZ cC cS sq ct aCells cw ch cp aPrices aFree aPlaces aHomes aManners aGone aPaid aBlinks fc hrg_fc hw hh X hK hT hA (fun q_1 i_2 hi_3 hi_4 hi_5 hi_6 H locs ls hP hD hS hl => ?_) _ (0) (0) (by first | with_reducible assumption | assumption | omega | decide | (rw [show Int32.toInt 0 = 0 from rfl]; omega)) (by first | with_reducible assumption | decide | (and_intros <;> first | with_reducible assumption | (intros; refine Int.le_antisymm ?_ ?_ <;> omega) | omega) | assumption | (rw [show Int32.toInt 0 = 0 from rfl]; omega)) rfl (Nat.lt_succ_self _) H _ ls hP hD hS (lv_sub hl [0, 1, 2] rfl)
  refine lv_iload_n S.1 S.2.1 dX1_fronts_29 rfl (lv_at hl 1 rfl) ?_
  exact b_iret S.1 S.2.1 X.2.1 X.2.2.1 hP hD hS ⟨(cnA_80 (by first | with_reducible assumption | assumption) (by first | (and_intros <;> first | with_reducible assumption | (refine Int.le_antisymm ?_ ?_ <;> omega) | omega) | omega) (by first | (and_intros <;> first | with_reducible assumption | (refine Int.le_antisymm ?_ ?_ <;> omega) | omega) | omega)), rfl⟩ dX1_fronts_30
set_option maxHeartbeats 4000000 in
set_option maxRecDepth 100000 in
theorem lp_mirrors {p : Program} (l : Launch) {e : Env} {s : State} {m : MethodId} {below : List Frame} {meth : Method} {c : Code} (D : va_G) (cI cZ cC cS : ClassId) (sq : Nat → Nat) (ct : Nat) (aCells : Nat) (cw : Int32) (ch : Int32) (cp : Int32) (aPrices : Nat) (aFree : Nat) (aPlaces : Nat) (aHomes : Nat) (aManners : Nat) (aGone : Nat) (aPaid : Nat) (aBlinks : Nat) (fc : Nat → Int32) (hrg_fc : rng fc 80 (-1) (8)) (hw : 0 ≤ cw.toInt ∧ cw.toInt ≤ 10) (hh : 0 ≤ ch.toInt ∧ ch.toInt ≤ 8) {A : Nat → Prop} (X : bX p s m meth c cX1_mirrors 3 wsX1_mirrors yX1_mirrors (some .int) [.ref ct]) (hK : kW D (tyW cI cZ cC cS) sq s) (hT : sT sq A s s.heap) (hA : ∀ q, s.heap.size ≤ q → A q) (K : ∀ (q : Int32) (i : Int32), (rng fc 80 (-1) (8)) → (0 ≤ i.toInt ∧ i.toInt ≤ 80 ∧ 0 ≤ q.toInt ∧ q.toInt ≤ i.toInt) → (q.toInt = cnA (mrX cw.toInt ch.toInt fc) i.toInt.toNat) → (80 ≤ i.toInt) → ∀ (H : Heap) (locs : List Loc) (ls : Array Slot), va_P D vwCl [(ct, .inr (1, [.int cw, .int ch, .int cp, .ref aCells, .ref aPrices, .ref aFree, .ref aPlaces, .ref aHomes, .ref aManners, .ref aGone, .ref aPaid, .ref aBlinks])), (aCells, .inl (cI, 80, .inl fc))] H → va_D A [(ct, .inr (1, [.int cw, .int ch, .int cp, .ref aCells, .ref aPrices, .ref aFree, .ref aPlaces, .ref aHomes, .ref aManners, .ref aGone, .ref aPaid, .ref aBlinks])), (aCells, .inl (cI, 80, .inl fc))] → va_S A s.heap H locs → lv_has ls 3 [(2, .int i), (1, .int q), (0, .ref ct)] → W p l e (rmW 2 80 0 0) s m ([.ref ct] : List Value).toArray below meth c H locs 0 0 (MQ below (va_Qi (fun r w => ((r.toInt = cnA (mrX cw.toInt ch.toInt fc) 80) ∧ w = [(ct, .inr (1, [.int cw, .int ch, .int cp, .ref aCells, .ref aPrices, .ref aFree, .ref aPlaces, .ref aHomes, .ref aManners, .ref aGone, .ref aPaid, .ref aBlinks])), (aCells, .inl (cI, 80, .inl fc))])) (wD D A) A) ([.ref ct] : List Value).toArray s 0 0 A) (F0 m 27 ls [])) : ∀ (mN : Nat) (q : Int32) (i : Int32), (rng fc 80 (-1) (8)) → (0 ≤ i.toInt ∧ i.toInt ≤ 80 ∧ 0 ≤ q.toInt ∧ q.toInt ≤ i.toInt) → (q.toInt = cnA (mrX cw.toInt ch.toInt fc) i.toInt.toNat) → ((80 - i.toInt).toNat < mN) → ∀ (H : Heap) (locs : List Loc) (ls : Array Slot), va_P D vwCl [(ct, .inr (1, [.int cw, .int ch, .int cp, .ref aCells, .ref aPrices, .ref aFree, .ref aPlaces, .ref aHomes, .ref aManners, .ref aGone, .ref aPaid, .ref aBlinks])), (aCells, .inl (cI, 80, .inl fc))] H → va_D A [(ct, .inr (1, [.int cw, .int ch, .int cp, .ref aCells, .ref aPrices, .ref aFree, .ref aPlaces, .ref aHomes, .ref aManners, .ref aGone, .ref aPaid, .ref aBlinks])), (aCells, .inl (cI, 80, .inl fc))] → va_S A s.heap H locs → lv_has ls 3 [(2, .int i), (1, .int q), (0, .ref ct)] → W p l e (rmW 2 80 0 0) s m ([.ref ct] : List Value).toArray below meth c H locs 0 0 (MQ below (va_Qi (fun r w => ((r.toInt = cnA (mrX cw.toInt ch.toInt fc) 80) ∧ w = [(ct, .inr (1, [.int cw, .int ch, .int cp, .ref aCells, .ref aPrices, .ref aFree, .ref aPlaces, .ref aHomes, .ref aManners, .ref aGone, .ref aPaid, .ref aBlinks])), (aCells, .inl (cI, 80, .inl fc))])) (wD D A) A) ([.ref ct] : List Value).toArray s 0 0 A) (F0 m 4 ls []) := by
  have S : CallFix p m c cX1_mirrors 3 s ([.ref ct] : List Value).toArray wsX1_mirrors RX1 := X.1
  intro mN
  induction mN with
  | zero => intro q i hrg_fc hi hq hm; exact absurd hm (Nat.not_lt_zero _)
  | succ mN ih =>
    intro q i hrg_fc hi hq hm H locs ls hP hD hS hl
    refine lv_iload_n S.1 S.2.1 dX1_mirrors_4 rfl (lv_at hl 0 rfl) ?_
    refine lv_bipush (v := (80)) S.1 S.2.1 dX1_mirrors_5 (by decide) ?_
    refine lv_icmp_ge (tgt := 27) S.1 S.2.1 dX1_mirrors_7 (by decide) (fun c_101 => ?_) (fun c_101 => ?_)
    · rw [le2 (a := 80) (b := i) (A := 80) (B := i.toInt) rfl rfl] at c_101
      exact K q i (by first | with_reducible assumption | assumption | omega | decide | (rw [show Int32.toInt 0 = 0 from rfl]; omega)) (by first | with_reducible assumption | decide | (and_intros <;> first | with_reducible assumption | (intros; refine Int.le_antisymm ?_ ?_ <;> omega) | omega) | assumption | (rw [show Int32.toInt 0 = 0 from rfl]; omega)) (by first | assumption | exact cnA_y hq (by unfold mrX; omega) (by first | (and_intros <;> first | with_reducible assumption | (refine Int.le_antisymm ?_ ?_ <;> omega) | omega) | omega) (by first | (and_intros <;> first | with_reducible assumption | (refine Int.le_antisymm ?_ ?_ <;> omega) | omega) | omega) (by first | (and_intros <;> first | with_reducible assumption | (refine Int.le_antisymm ?_ ?_ <;> omega) | omega) | omega) | exact cnA_n hq (by unfold mrX; omega) (by first | (and_intros <;> first | with_reducible assumption | (refine Int.le_antisymm ?_ ?_ <;> omega) | omega) | omega) (by first | (and_intros <;> first | with_reducible assumption | (refine Int.le_antisymm ?_ ?_ <;> omega) | omega) | omega)) (by first | with_reducible assumption | decide | (and_intros <;> first | with_reducible assumption | (intros; refine Int.le_antisymm ?_ ?_ <;> omega) | omega) | assumption | (rw [show Int32.toInt 0 = 0 from rfl]; omega)) H _ ls hP hD hS (lv_sub hl [0, 1, 2] rfl)
    · rw [le2 (a := 80) (b := i) (A := 80) (B := i.toInt) rfl rfl] at c_101
      refine lv_aload_n S.1 S.2.1 dX1_mirrors_10 rfl (lv_at hl 2 rfl) ?_
      refine lv_iload_n S.1 S.2.1 dX1_mirrors_11 rfl (lv_at hl 0 rfl) ?_
      refine b_ai (wr := []) (b_runV (q0 := 0) (ci := 1) (As := [.int i]) (s_X1_isMirror l D cI cZ cC cS sq H.size ct aCells i cw ch cp aPrices aFree aPlaces aHomes aManners aGone aPaid aBlinks fc (by first | with_reducible assumption | assumption | omega | decide | (rw [show Int32.toInt 0 = 0 from rfl]; omega)) (by first | with_reducible assumption | decide | (and_intros <;> first | with_reducible assumption | (intros; refine Int.le_antisymm ?_ ?_ <;> omega) | omega) | assumption | (rw [show Int32.toInt 0 = 0 from rfl]; omega)) (by first | with_reducible assumption | decide | (and_intros <;> first | with_reducible assumption | (intros; refine Int.le_antisymm ?_ ?_ <;> omega) | omega) | assumption | (rw [show Int32.toInt 0 = 0 from rfl]; omega))) S gX1_mirrors_X1_isMirror rfl hdV_X1_isMirror ⟨Nat.le_of_ble_eq_true rfl, Nat.le_of_ble_eq_true rfl⟩ ⟨Nat.le_of_ble_eq_true rfl, Nat.le_of_ble_eq_true rfl⟩ hK hT hS hA hP hD rfl rfl [0, 1] rfl (by decide) rfl hl.1 rfl (Nat.le_of_ble_eq_true rfl) dX1_mirrors_12) hP hD hS hA [0, 1] [] rfl rfl (by decide) (by decide) (fun r_102 w_103 H locs hw_104 hP hD hS => ?_)
      rcases hw_104 with ⟨hf_105, hf_106, rfl, rfl⟩ | ⟨hf_107, rfl, rfl⟩
      · have hP : va_P D vwCl [(ct, .inr (1, [.int cw, .int ch, .int cp, .ref aCells, .ref aPrices, .ref aFree, .ref aPlaces, .ref aHomes, .ref aManners, .ref aGone, .ref aPaid, .ref aBlinks])), (aCells, .inl (cI, 80, .inl fc))] H := hP
        have hD : va_D A [(ct, .inr (1, [.int cw, .int ch, .int cp, .ref aCells, .ref aPrices, .ref aFree, .ref aPlaces, .ref aHomes, .ref aManners, .ref aGone, .ref aPaid, .ref aBlinks])), (aCells, .inl (cI, 80, .inl fc))] := hD
        refine lv_if_eq (tgt := 21) S.1 S.2.1 dX1_mirrors_15 (by decide) (fun c_108 => absurd c_108 (by decide)) (fun c_108 => ?_)
        obtain ⟨x_109, ex_109⟩ : ∃ y : Int32, y = q + Int32.ofInt (1) := ⟨_, rfl⟩
        refine lv_iinc (v := x_109) (lv' := [(1, .int x_109), (2, .int i), (0, .ref ct)]) S.1 S.2.1 dX1_mirrors_18 hl (k := 1) rfl ex_109.symm (by decide) rfl (fun ls hl => ?_)
        have tx_109 : x_109.toInt = q.toInt + (1) := addI (A := q.toInt) (B := 1) ex_109 rfl rfl (by  omega) (by  omega)
        obtain ⟨x_110, ex_110⟩ : ∃ y : Int32, y = i + Int32.ofInt (1) := ⟨_, rfl⟩
        refine lv_iinc (v := x_110) (lv' := [(2, .int x_110), (1, .int x_109), (0, .ref ct)]) S.1 S.2.1 dX1_mirrors_21 hl (k := 1) rfl ex_110.symm (by decide) rfl (fun ls hl => ?_)
        have tx_110 : x_110.toInt = i.toInt + (1) := addI (A := i.toInt) (B := 1) ex_110 rfl rfl (by  omega) (by  omega)
        refine lv_goto (tgt := 4) S.1 S.2.1 dX1_mirrors_24 (by decide) ?_
        exact ih x_109 x_110 (by first | with_reducible assumption | assumption | omega | decide | (rw [show Int32.toInt 0 = 0 from rfl]; omega)) (by first | with_reducible assumption | decide | (and_intros <;> first | with_reducible assumption | (intros; refine Int.le_antisymm ?_ ?_ <;> omega) | omega) | assumption | (rw [show Int32.toInt 0 = 0 from rfl]; omega)) (by first | assumption | exact cnA_y hq (by unfold mrX; omega) (by first | (and_intros <;> first | with_reducible assumption | (refine Int.le_antisymm ?_ ?_ <;> omega) | omega) | omega) (by first | (and_intros <;> first | with_reducible assumption | (refine Int.le_antisymm ?_ ?_ <;> omega) | omega) | omega) (by first | (and_intros <;> first | with_reducible assumption | (refine Int.le_antisymm ?_ ?_ <;> omega) | omega) | omega) | exact cnA_n hq (by unfold mrX; omega) (by first | (and_intros <;> first | with_reducible assumption | (refine Int.le_antisymm ?_ ?_ <;> omega) | omega) | omega) (by first | (and_intros <;> first | with_reducible assumption | (refine Int.le_antisymm ?_ ?_ <;> omega) | omega) | omega)) (by first | (and_intros <;> first | with_reducible assumption | (refine Int.le_antisymm ?_ ?_ <;> omega) | omega) | omega) H _ ls hP hD hS (lv_sub hl [0, 1, 2] rfl)
      · have hP : va_P D vwCl [(ct, .inr (1, [.int cw, .int ch, .int cp, .ref aCells, .ref aPrices, .ref aFree, .ref aPlaces, .ref aHomes, .ref aManners, .ref aGone, .ref aPaid, .ref aBlinks])), (aCells, .inl (cI, 80, .inl fc))] H := hP
        have hD : va_D A [(ct, .inr (1, [.int cw, .int ch, .int cp, .ref aCells, .ref aPrices, .ref aFree, .ref aPlaces, .ref aHomes, .ref aManners, .ref aGone, .ref aPaid, .ref aBlinks])), (aCells, .inl (cI, 80, .inl fc))] := hD
        refine lv_if_eq (tgt := 21) S.1 S.2.1 dX1_mirrors_15 (by decide) (fun c_111 => ?_) (fun c_111 => absurd c_111 (by decide))
        obtain ⟨x_112, ex_112⟩ : ∃ y : Int32, y = i + Int32.ofInt (1) := ⟨_, rfl⟩
        refine lv_iinc (v := x_112) (lv' := [(2, .int x_112), (1, .int q), (0, .ref ct)]) S.1 S.2.1 dX1_mirrors_21 hl (k := 0) rfl ex_112.symm (by decide) rfl (fun ls hl => ?_)
        have tx_112 : x_112.toInt = i.toInt + (1) := addI (A := i.toInt) (B := 1) ex_112 rfl rfl (by  omega) (by  omega)
        refine lv_goto (tgt := 4) S.1 S.2.1 dX1_mirrors_24 (by decide) ?_
        exact ih q x_112 (by first | with_reducible assumption | assumption | omega | decide | (rw [show Int32.toInt 0 = 0 from rfl]; omega)) (by first | with_reducible assumption | decide | (and_intros <;> first | with_reducible assumption | (intros; refine Int.le_antisymm ?_ ?_ <;> omega) | omega) | assumption | (rw [show Int32.toInt 0 = 0 from rfl]; omega)) (by first | assumption | exact cnA_y hq (by unfold mrX; omega) (by first | (and_intros <;> first | with_reducible assumption | (refine Int.le_antisymm ?_ ?_ <;> omega) | omega) | omega) (by first | (and_intros <;> first | with_reducible assumption | (refine Int.le_antisymm ?_ ?_ <;> omega) | omega) | omega) (by first | (and_intros <;> first | with_reducible assumption | (refine Int.le_antisymm ?_ ?_ <;> omega) | omega) | omega) | exact cnA_n hq (by unfold mrX; omega) (by first | (and_intros <;> first | with_reducible assumption | (refine Int.le_antisymm ?_ ?_ <;> omega) | omega) | omega) (by first | (and_intros <;> first | with_reducible assumption | (refine Int.le_antisymm ?_ ?_ <;> omega) | omega) | omega)) (by first | (and_intros <;> first | with_reducible assumption | (refine Int.le_antisymm ?_ ?_ <;> omega) | omega) | omega) H _ ls hP hD hS (lv_sub hl [0, 1, 2] rfl)
set_option maxHeartbeats 4000000 in
set_option maxRecDepth 100000 in
theorem s_X1_mirrors (l : Launch) (D : va_G) (cI cZ cC cS : ClassId) (sq : Nat → Nat) (sz : Nat) (ct : Nat) (aCells : Nat) (cw : Int32) (ch : Int32) (cp : Int32) (aPrices : Nat) (aFree : Nat) (aPlaces : Nat) (aHomes : Nat) (aManners : Nat) (aGone : Nat) (aPaid : Nat) (aBlinks : Nat) (fc : Nat → Int32) (hrg_fc : rng fc 80 (-1) (8)) (hw : 0 ≤ cw.toInt ∧ cw.toInt ≤ 10) (hh : 0 ≤ ch.toInt ∧ ch.toInt ≤ 8) : mI l yX1_mirrors wsX1_mirrors 2 80 D (tyW cI cZ cC cS) sq [(ct, .inr (1, [.int cw, .int ch, .int cp, .ref aCells, .ref aPrices, .ref aFree, .ref aPlaces, .ref aHomes, .ref aManners, .ref aGone, .ref aPaid, .ref aBlinks])), (aCells, .inl (cI, 80, .inl fc))] sz [.ref ct] (fun r w => ((r.toInt = cnA (mrX cw.toInt ch.toInt fc) 80) ∧ w = [(ct, .inr (1, [.int cw, .int ch, .int cp, .ref aCells, .ref aPrices, .ref aFree, .ref aPlaces, .ref aHomes, .ref aManners, .ref aGone, .ref aPaid, .ref aBlinks])), (aCells, .inl (cI, 80, .inl fc))])) := by
  refine b_metI (cc := cX1_mirrors) (maxL := 3) (ret := (some .int)) (by decide) rfl (Nat.le_of_ble_eq_true rfl) ?_
  intro p e s m below meth c ls A H X hsz hP hK hT hD hA hS hl
  have S : CallFix p m c cX1_mirrors 3 s ([.ref ct] : List Value).toArray wsX1_mirrors RX1 := X.1
  have hl : lv_has ls 3 [(0, .ref ct)] := hl
  refine lv_iconst (v := (0)) S.1 S.2.1 dX1_mirrors_0 (by decide) ?_
  refine lv_istore_n (lv' := [(1, .int 0), (0, .ref ct)]) S.1 S.2.1 dX1_mirrors_1 rfl hl (by decide) rfl (fun ls hl => ?_)
  refine lv_iconst (v := (0)) S.1 S.2.1 dX1_mirrors_2 (by decide) ?_
  refine lv_istore_n (lv' := [(2, .int 0), (1, .int 0), (0, .ref ct)]) S.1 S.2.1 dX1_mirrors_3 rfl hl (by decide) rfl (fun ls hl => ?_)
  refine lp_mirrors l D cI cZ cC cS sq ct aCells cw ch cp aPrices aFree aPlaces aHomes aManners aGone aPaid aBlinks fc hrg_fc hw hh X hK hT hA (fun q_1 i_2 hi_3 hi_4 hi_5 hi_6 H locs ls hP hD hS hl => ?_) _ (0) (0) (by first | with_reducible assumption | assumption | omega | decide | (rw [show Int32.toInt 0 = 0 from rfl]; omega)) (by first | with_reducible assumption | decide | (and_intros <;> first | with_reducible assumption | (intros; refine Int.le_antisymm ?_ ?_ <;> omega) | omega) | assumption | (rw [show Int32.toInt 0 = 0 from rfl]; omega)) rfl (Nat.lt_succ_self _) H _ ls hP hD hS (lv_sub hl [0, 1, 2] rfl)
  refine lv_iload_n S.1 S.2.1 dX1_mirrors_27 rfl (lv_at hl 1 rfl) ?_
  exact b_iret S.1 S.2.1 X.2.1 X.2.2.1 hP hD hS ⟨(cnA_80 (by first | with_reducible assumption | assumption) (by first | (and_intros <;> first | with_reducible assumption | (refine Int.le_antisymm ?_ ?_ <;> omega) | omega) | omega) (by first | (and_intros <;> first | with_reducible assumption | (refine Int.le_antisymm ?_ ?_ <;> omega) | omega) | omega)), rfl⟩ dX1_mirrors_28
set_option maxHeartbeats 4000000 in
set_option maxRecDepth 100000 in
theorem lp_hasFront {p : Program} (l : Launch) {e : Env} {s : State} {m : MethodId} {below : List Frame} {meth : Method} {c : Code} (D : va_G) (cI cZ cC cS : ClassId) (sq : Nat → Nat) (ct : Nat) (aCells : Nat) (ow : Int32) (cw : Int32) (ch : Int32) (cp : Int32) (aPrices : Nat) (aFree : Nat) (aPlaces : Nat) (aHomes : Nat) (aManners : Nat) (aGone : Nat) (aPaid : Nat) (aBlinks : Nat) (fc : Nat → Int32) (hrg_fc : rng fc 80 (-1) (8)) (hw : 0 ≤ cw.toInt ∧ cw.toInt ≤ 10) (hh : 0 ≤ ch.toInt ∧ ch.toInt ≤ 8) {A : Nat → Prop} (X : bX p s m meth c cX1_hasFront 3 wsX1_hasFront yX1_hasFront (some .boolean) [.ref ct, .int ow]) (hK : kW D (tyW cI cZ cC cS) sq s) (hT : sT sq A s s.heap) (hA : ∀ q, s.heap.size ≤ q → A q) (K : ∀ (i : Int32), (rng fc 80 (-1) (8)) → (0 ≤ i.toInt ∧ i.toInt ≤ 80) → ∀ (H : Heap) (locs : List Loc) (ls : Array Slot), va_P D vwCl [(ct, .inr (1, [.int cw, .int ch, .int cp, .ref aCells, .ref aPrices, .ref aFree, .ref aPlaces, .ref aHomes, .ref aManners, .ref aGone, .ref aPaid, .ref aBlinks])), (aCells, .inl (cI, 80, .inl fc))] H → va_D A [(ct, .inr (1, [.int cw, .int ch, .int cp, .ref aCells, .ref aPrices, .ref aFree, .ref aPlaces, .ref aHomes, .ref aManners, .ref aGone, .ref aPaid, .ref aBlinks])), (aCells, .inl (cI, 80, .inl fc))] → va_S A s.heap H locs → lv_has ls 3 [(2, .int i), (0, .ref ct), (1, .int ow)] → W p l e (rmW 2 80 0 0) s m ([.ref ct, .int ow] : List Value).toArray below meth c H locs 0 0 (MQ below (va_Qi (fun r w => (r = 1 ∧ w = [(ct, .inr (1, [.int cw, .int ch, .int cp, .ref aCells, .ref aPrices, .ref aFree, .ref aPlaces, .ref aHomes, .ref aManners, .ref aGone, .ref aPaid, .ref aBlinks])), (aCells, .inl (cI, 80, .inl fc))]) ∨ (r = 0 ∧ w = [(ct, .inr (1, [.int cw, .int ch, .int cp, .ref aCells, .ref aPrices, .ref aFree, .ref aPlaces, .ref aHomes, .ref aManners, .ref aGone, .ref aPaid, .ref aBlinks])), (aCells, .inl (cI, 80, .inl fc))])) (wD D A) A) ([.ref ct, .int ow] : List Value).toArray s 0 0 A) (F0 m 25 ls [])) : ∀ (mN : Nat) (i : Int32), (rng fc 80 (-1) (8)) → (0 ≤ i.toInt ∧ i.toInt ≤ 80) → ((80 - i.toInt).toNat < mN) → ∀ (H : Heap) (locs : List Loc) (ls : Array Slot), va_P D vwCl [(ct, .inr (1, [.int cw, .int ch, .int cp, .ref aCells, .ref aPrices, .ref aFree, .ref aPlaces, .ref aHomes, .ref aManners, .ref aGone, .ref aPaid, .ref aBlinks])), (aCells, .inl (cI, 80, .inl fc))] H → va_D A [(ct, .inr (1, [.int cw, .int ch, .int cp, .ref aCells, .ref aPrices, .ref aFree, .ref aPlaces, .ref aHomes, .ref aManners, .ref aGone, .ref aPaid, .ref aBlinks])), (aCells, .inl (cI, 80, .inl fc))] → va_S A s.heap H locs → lv_has ls 3 [(2, .int i), (0, .ref ct), (1, .int ow)] → W p l e (rmW 2 80 0 0) s m ([.ref ct, .int ow] : List Value).toArray below meth c H locs 0 0 (MQ below (va_Qi (fun r w => (r = 1 ∧ w = [(ct, .inr (1, [.int cw, .int ch, .int cp, .ref aCells, .ref aPrices, .ref aFree, .ref aPlaces, .ref aHomes, .ref aManners, .ref aGone, .ref aPaid, .ref aBlinks])), (aCells, .inl (cI, 80, .inl fc))]) ∨ (r = 0 ∧ w = [(ct, .inr (1, [.int cw, .int ch, .int cp, .ref aCells, .ref aPrices, .ref aFree, .ref aPlaces, .ref aHomes, .ref aManners, .ref aGone, .ref aPaid, .ref aBlinks])), (aCells, .inl (cI, 80, .inl fc))])) (wD D A) A) ([.ref ct, .int ow] : List Value).toArray s 0 0 A) (F0 m 2 ls []) := by
  have S : CallFix p m c cX1_hasFront 3 s ([.ref ct, .int ow] : List Value).toArray wsX1_hasFront RX1 := X.1
  intro mN
  induction mN with
  | zero => intro i hrg_fc hi hm; exact absurd hm (Nat.not_lt_zero _)
  | succ mN ih =>
    intro i hrg_fc hi hm H locs ls hP hD hS hl
    refine lv_iload_n S.1 S.2.1 dX1_hasFront_2 rfl (lv_at hl 0 rfl) ?_
    refine lv_bipush (v := (80)) S.1 S.2.1 dX1_hasFront_3 (by decide) ?_
    refine lv_icmp_ge (tgt := 25) S.1 S.2.1 dX1_hasFront_5 (by decide) (fun c_101 => ?_) (fun c_101 => ?_)
    · rw [le2 (a := 80) (b := i) (A := 80) (B := i.toInt) rfl rfl] at c_101
      exact K i (by first | with_reducible assumption | assumption | omega | decide | (rw [show Int32.toInt 0 = 0 from rfl]; omega)) (by first | with_reducible assumption | decide | (and_intros <;> first | with_reducible assumption | (intros; refine Int.le_antisymm ?_ ?_ <;> omega) | omega) | assumption | (rw [show Int32.toInt 0 = 0 from rfl]; omega)) H _ ls hP hD hS (lv_sub hl [0, 1, 2] rfl)
    · rw [le2 (a := 80) (b := i) (A := 80) (B := i.toInt) rfl rfl] at c_101
      refine lv_aload_n S.1 S.2.1 dX1_hasFront_8 rfl (lv_at hl 1 rfl) ?_
      refine lv_iload_n S.1 S.2.1 dX1_hasFront_9 rfl (lv_at hl 0 rfl) ?_
      refine b_ai (wr := []) (b_runV (q0 := 0) (ci := 1) (As := [.int i]) (s_X1_ownerOf l D cI cZ cC cS sq H.size ct aCells i cw ch cp aPrices aFree aPlaces aHomes aManners aGone aPaid aBlinks fc (by first | with_reducible assumption | assumption | omega | decide | (rw [show Int32.toInt 0 = 0 from rfl]; omega)) (by first | with_reducible assumption | decide | (and_intros <;> first | with_reducible assumption | (intros; refine Int.le_antisymm ?_ ?_ <;> omega) | omega) | assumption | (rw [show Int32.toInt 0 = 0 from rfl]; omega)) (by first | with_reducible assumption | decide | (and_intros <;> first | with_reducible assumption | (intros; refine Int.le_antisymm ?_ ?_ <;> omega) | omega) | assumption | (rw [show Int32.toInt 0 = 0 from rfl]; omega))) S gX1_hasFront_X1_ownerOf rfl hdV_X1_ownerOf ⟨Nat.le_of_ble_eq_true rfl, Nat.le_of_ble_eq_true rfl⟩ ⟨Nat.le_of_ble_eq_true rfl, Nat.le_of_ble_eq_true rfl⟩ hK hT hS hA hP hD rfl rfl [0, 1] rfl (by decide) rfl hl.1 rfl (Nat.le_of_ble_eq_true rfl) dX1_hasFront_10) hP hD hS hA [0, 1] [] rfl rfl (by decide) (by decide) (fun r_102 w_103 H locs hw_104 hP hD hS => ?_)
      obtain ⟨hf_105, hf_106, rfl⟩ := hw_104
      have hP : va_P D vwCl [(ct, .inr (1, [.int cw, .int ch, .int cp, .ref aCells, .ref aPrices, .ref aFree, .ref aPlaces, .ref aHomes, .ref aManners, .ref aGone, .ref aPaid, .ref aBlinks])), (aCells, .inl (cI, 80, .inl fc))] H := hP
      have hD : va_D A [(ct, .inr (1, [.int cw, .int ch, .int cp, .ref aCells, .ref aPrices, .ref aFree, .ref aPlaces, .ref aHomes, .ref aManners, .ref aGone, .ref aPaid, .ref aBlinks])), (aCells, .inl (cI, 80, .inl fc))] := hD
      refine lv_iload_n S.1 S.2.1 dX1_hasFront_13 rfl (lv_at hl 2 rfl) ?_
      refine lv_icmp_ne (tgt := 19) S.1 S.2.1 dX1_hasFront_14 (by decide) (fun c_107 => ?_) (fun c_107 => ?_)
      · rw [eq2 (a := r_102) (b := ow) (A := r_102.toInt) (B := ow.toInt) rfl rfl] at c_107
        obtain ⟨x_108, ex_108⟩ : ∃ y : Int32, y = i + Int32.ofInt (1) := ⟨_, rfl⟩
        refine lv_iinc (v := x_108) (lv' := [(2, .int x_108), (0, .ref ct), (1, .int ow)]) S.1 S.2.1 dX1_hasFront_19 hl (k := 0) rfl ex_108.symm (by decide) rfl (fun ls hl => ?_)
        have tx_108 : x_108.toInt = i.toInt + (1) := addI (A := i.toInt) (B := 1) ex_108 rfl rfl (by  omega) (by  omega)
        refine lv_goto (tgt := 2) S.1 S.2.1 dX1_hasFront_22 (by decide) ?_
        exact ih x_108 (by first | with_reducible assumption | assumption | omega | decide | (rw [show Int32.toInt 0 = 0 from rfl]; omega)) (by first | with_reducible assumption | decide | (and_intros <;> first | with_reducible assumption | (intros; refine Int.le_antisymm ?_ ?_ <;> omega) | omega) | assumption | (rw [show Int32.toInt 0 = 0 from rfl]; omega)) (by first | (and_intros <;> first | with_reducible assumption | (refine Int.le_antisymm ?_ ?_ <;> omega) | omega) | omega) H _ ls hP hD hS (lv_sub hl [0, 1, 2] rfl)
      · rw [eq2 (a := r_102) (b := ow) (A := r_102.toInt) (B := ow.toInt) rfl rfl] at c_107
        refine lv_iconst (v := (1)) S.1 S.2.1 dX1_hasFront_17 (by decide) ?_
        exact b_zret S.1 S.2.1 X.2.1 X.2.2.1 rfl hP hD hS (Or.inl ⟨rfl, rfl⟩) dX1_hasFront_18
set_option maxHeartbeats 4000000 in
set_option maxRecDepth 100000 in
theorem s_X1_hasFront (l : Launch) (D : va_G) (cI cZ cC cS : ClassId) (sq : Nat → Nat) (sz : Nat) (ct : Nat) (aCells : Nat) (ow : Int32) (cw : Int32) (ch : Int32) (cp : Int32) (aPrices : Nat) (aFree : Nat) (aPlaces : Nat) (aHomes : Nat) (aManners : Nat) (aGone : Nat) (aPaid : Nat) (aBlinks : Nat) (fc : Nat → Int32) (hrg_fc : rng fc 80 (-1) (8)) (hw : 0 ≤ cw.toInt ∧ cw.toInt ≤ 10) (hh : 0 ≤ ch.toInt ∧ ch.toInt ≤ 8) : mI l yX1_hasFront wsX1_hasFront 2 80 D (tyW cI cZ cC cS) sq [(ct, .inr (1, [.int cw, .int ch, .int cp, .ref aCells, .ref aPrices, .ref aFree, .ref aPlaces, .ref aHomes, .ref aManners, .ref aGone, .ref aPaid, .ref aBlinks])), (aCells, .inl (cI, 80, .inl fc))] sz [.ref ct, .int ow] (fun r w => (r = 1 ∧ w = [(ct, .inr (1, [.int cw, .int ch, .int cp, .ref aCells, .ref aPrices, .ref aFree, .ref aPlaces, .ref aHomes, .ref aManners, .ref aGone, .ref aPaid, .ref aBlinks])), (aCells, .inl (cI, 80, .inl fc))]) ∨ (r = 0 ∧ w = [(ct, .inr (1, [.int cw, .int ch, .int cp, .ref aCells, .ref aPrices, .ref aFree, .ref aPlaces, .ref aHomes, .ref aManners, .ref aGone, .ref aPaid, .ref aBlinks])), (aCells, .inl (cI, 80, .inl fc))])) := by
  refine b_metI (cc := cX1_hasFront) (maxL := 3) (ret := (some .boolean)) (by decide) rfl (Nat.le_of_ble_eq_true rfl) ?_
  intro p e s m below meth c ls A H X hsz hP hK hT hD hA hS hl
  have S : CallFix p m c cX1_hasFront 3 s ([.ref ct, .int ow] : List Value).toArray wsX1_hasFront RX1 := X.1
  have hl : lv_has ls 3 [(0, .ref ct), (1, .int ow)] := hl
  refine lv_iconst (v := (0)) S.1 S.2.1 dX1_hasFront_0 (by decide) ?_
  refine lv_istore_n (lv' := [(2, .int 0), (0, .ref ct), (1, .int ow)]) S.1 S.2.1 dX1_hasFront_1 rfl hl (by decide) rfl (fun ls hl => ?_)
  refine lp_hasFront l D cI cZ cC cS sq ct aCells ow cw ch cp aPrices aFree aPlaces aHomes aManners aGone aPaid aBlinks fc hrg_fc hw hh X hK hT hA (fun i_1 hi_2 hi_3 H locs ls hP hD hS hl => ?_) _ (0) (by first | with_reducible assumption | assumption | omega | decide | (rw [show Int32.toInt 0 = 0 from rfl]; omega)) (by first | with_reducible assumption | decide | (and_intros <;> first | with_reducible assumption | (intros; refine Int.le_antisymm ?_ ?_ <;> omega) | omega) | assumption | (rw [show Int32.toInt 0 = 0 from rfl]; omega)) (Nat.lt_succ_self _) H _ ls hP hD hS (lv_sub hl [0, 1, 2] rfl)
  refine lv_iconst (v := (0)) S.1 S.2.1 dX1_hasFront_25 (by decide) ?_
  exact b_zret S.1 S.2.1 X.2.1 X.2.2.1 rfl hP hD hS (Or.inr (⟨rfl, rfl⟩)) dX1_hasFront_26
set_option maxHeartbeats 4000000 in
set_option maxRecDepth 100000 in
theorem lp_isTaken {p : Program} (l : Launch) {e : Env} {s : State} {m : MethodId} {below : List Frame} {meth : Method} {c : Code} (D : va_G) (cI cZ cC cS : ClassId) (sq : Nat → Nat) (ct : Nat) (aPlaces : Nat) (aHomes : Nat) (k : Int32) (cw : Int32) (ch : Int32) (cp : Int32) (aCells : Nat) (aPrices : Nat) (aFree : Nat) (aManners : Nat) (aGone : Nat) (aPaid : Nat) (aBlinks : Nat) (fl : Nat → Int32) (fh : Nat → Int32) (hrg_fl : rng fl 6 (0) (79)) (hrg_fh : rng fh 6 (0) (79)) (hp : 0 ≤ cp.toInt ∧ cp.toInt ≤ 6) {A : Nat → Prop} (X : bX p s m meth c cX1_isTaken 3 wsX1_isTaken yX1_isTaken (some .boolean) [.ref ct, .int k]) (hK : kW D (tyW cI cZ cC cS) sq s) (hT : sT sq A s s.heap) (hA : ∀ q, s.heap.size ≤ q → A q) (K : ∀ (i : Int32), (rng fl 6 (0) (79)) → (rng fh 6 (0) (79)) → (0 ≤ i.toInt ∧ i.toInt ≤ 6) → ∀ (H : Heap) (locs : List Loc) (ls : Array Slot), va_P D vwCl [(ct, .inr (1, [.int cw, .int ch, .int cp, .ref aCells, .ref aPrices, .ref aFree, .ref aPlaces, .ref aHomes, .ref aManners, .ref aGone, .ref aPaid, .ref aBlinks])), (aPlaces, .inl (cI, 6, .inl fl)), (aHomes, .inl (cI, 6, .inl fh))] H → va_D A [(ct, .inr (1, [.int cw, .int ch, .int cp, .ref aCells, .ref aPrices, .ref aFree, .ref aPlaces, .ref aHomes, .ref aManners, .ref aGone, .ref aPaid, .ref aBlinks])), (aPlaces, .inl (cI, 6, .inl fl)), (aHomes, .inl (cI, 6, .inl fh))] → va_S A s.heap H locs → lv_has ls 3 [(2, .int i), (0, .ref ct), (1, .int k)] → W p l e (rmW 0 0 0 0) s m ([.ref ct, .int k] : List Value).toArray below meth c H locs 0 0 (MQ below (va_Qi (fun r w => (r = 1 ∧ w = [(ct, .inr (1, [.int cw, .int ch, .int cp, .ref aCells, .ref aPrices, .ref aFree, .ref aPlaces, .ref aHomes, .ref aManners, .ref aGone, .ref aPaid, .ref aBlinks])), (aPlaces, .inl (cI, 6, .inl fl)), (aHomes, .inl (cI, 6, .inl fh))]) ∨ (r = 0 ∧ w = [(ct, .inr (1, [.int cw, .int ch, .int cp, .ref aCells, .ref aPrices, .ref aFree, .ref aPlaces, .ref aHomes, .ref aManners, .ref aGone, .ref aPaid, .ref aBlinks])), (aPlaces, .inl (cI, 6, .inl fl)), (aHomes, .inl (cI, 6, .inl fh))])) (wD D A) A) ([.ref ct, .int k] : List Value).toArray s 0 0 A) (F0 m 38 ls [])) : ∀ (mN : Nat) (i : Int32), (rng fl 6 (0) (79)) → (rng fh 6 (0) (79)) → (0 ≤ i.toInt ∧ i.toInt ≤ 6) → ((6 - i.toInt).toNat < mN) → ∀ (H : Heap) (locs : List Loc) (ls : Array Slot), va_P D vwCl [(ct, .inr (1, [.int cw, .int ch, .int cp, .ref aCells, .ref aPrices, .ref aFree, .ref aPlaces, .ref aHomes, .ref aManners, .ref aGone, .ref aPaid, .ref aBlinks])), (aPlaces, .inl (cI, 6, .inl fl)), (aHomes, .inl (cI, 6, .inl fh))] H → va_D A [(ct, .inr (1, [.int cw, .int ch, .int cp, .ref aCells, .ref aPrices, .ref aFree, .ref aPlaces, .ref aHomes, .ref aManners, .ref aGone, .ref aPaid, .ref aBlinks])), (aPlaces, .inl (cI, 6, .inl fl)), (aHomes, .inl (cI, 6, .inl fh))] → va_S A s.heap H locs → lv_has ls 3 [(2, .int i), (0, .ref ct), (1, .int k)] → W p l e (rmW 0 0 0 0) s m ([.ref ct, .int k] : List Value).toArray below meth c H locs 0 0 (MQ below (va_Qi (fun r w => (r = 1 ∧ w = [(ct, .inr (1, [.int cw, .int ch, .int cp, .ref aCells, .ref aPrices, .ref aFree, .ref aPlaces, .ref aHomes, .ref aManners, .ref aGone, .ref aPaid, .ref aBlinks])), (aPlaces, .inl (cI, 6, .inl fl)), (aHomes, .inl (cI, 6, .inl fh))]) ∨ (r = 0 ∧ w = [(ct, .inr (1, [.int cw, .int ch, .int cp, .ref aCells, .ref aPrices, .ref aFree, .ref aPlaces, .ref aHomes, .ref aManners, .ref aGone, .ref aPaid, .ref aBlinks])), (aPlaces, .inl (cI, 6, .inl fl)), (aHomes, .inl (cI, 6, .inl fh))])) (wD D A) A) ([.ref ct, .int k] : List Value).toArray s 0 0 A) (F0 m 2 ls []) := by
  have S : CallFix p m c cX1_isTaken 3 s ([.ref ct, .int k] : List Value).toArray wsX1_isTaken RX1 := X.1
  have iX1 := jX1_isTaken_X1
  intro mN
  induction mN with
  | zero => intro i hrg_fl hrg_fh hi hm; exact absurd hm (Nat.not_lt_zero _)
  | succ mN ih =>
    intro i hrg_fl hrg_fh hi hm H locs ls hP hD hS hl
    refine lv_iload_n S.1 S.2.1 dX1_isTaken_2 rfl (lv_at hl 0 rfl) ?_
    refine lv_aload_n S.1 S.2.1 dX1_isTaken_3 rfl (lv_at hl 1 rfl) ?_
    refine b_get (v := .int cp) S iX1 hK hP 0 rfl rfl 2 (by decide) (by decide +kernel) rfl dX1_isTaken_4 ?_
    refine lv_icmp_ge (tgt := 38) S.1 S.2.1 dX1_isTaken_7 (by decide) (fun c_101 => ?_) (fun c_101 => ?_)
    · rw [le2 (a := cp) (b := i) (A := cp.toInt) (B := i.toInt) rfl rfl] at c_101
      exact K i (by first | with_reducible assumption | assumption | omega | decide | (rw [show Int32.toInt 0 = 0 from rfl]; omega)) (by first | with_reducible assumption | assumption | omega | decide | (rw [show Int32.toInt 0 = 0 from rfl]; omega)) (by first | with_reducible assumption | decide | (and_intros <;> first | with_reducible assumption | (intros; refine Int.le_antisymm ?_ ?_ <;> omega) | omega) | assumption | (rw [show Int32.toInt 0 = 0 from rfl]; omega)) H _ ls hP hD hS (lv_sub hl [0, 1, 2] rfl)
    · rw [le2 (a := cp) (b := i) (A := cp.toInt) (B := i.toInt) rfl rfl] at c_101
      refine lv_aload_n S.1 S.2.1 dX1_isTaken_10 rfl (lv_at hl 1 rfl) ?_
      refine b_get (v := .ref aPlaces) S iX1 hK hP 0 rfl rfl 6 (by decide) (by decide +kernel) rfl dX1_isTaken_11 ?_
      refine lv_iload_n S.1 S.2.1 dX1_isTaken_14 rfl (lv_at hl 0 rfl) ?_
      have hin_102 : vp_in i 6 := (in_of (n := 6) (by  omega) (by  omega))
      refine va_iald S.1 S.2.1 hK.1 hP 1 0 rfl rfl hin_102 dX1_isTaken_15 ?_
      refine lv_topi (fun x_103 ex_103 => ?_)
      have tx_103 := rng_get (x := x_103) (show rng fl 6 (0) (79) by assumption) hin_102 ex_103
      refine lv_iload_n S.1 S.2.1 dX1_isTaken_16 rfl (lv_at hl 2 rfl) ?_
      refine lv_icmp_eq (tgt := 30) S.1 S.2.1 dX1_isTaken_17 (by decide) (fun c_104 => ?_) (fun c_104 => ?_)
      · rw [eq2 (a := x_103) (b := k) (A := x_103.toInt) (B := k.toInt) rfl rfl] at c_104
        refine lv_iconst (v := (1)) S.1 S.2.1 dX1_isTaken_30 (by decide) ?_
        exact b_zret S.1 S.2.1 X.2.1 X.2.2.1 rfl hP hD hS (Or.inl ⟨rfl, rfl⟩) dX1_isTaken_31
      · rw [eq2 (a := x_103) (b := k) (A := x_103.toInt) (B := k.toInt) rfl rfl] at c_104
        refine lv_aload_n S.1 S.2.1 dX1_isTaken_20 rfl (lv_at hl 1 rfl) ?_
        refine b_get (v := .ref aHomes) S iX1 hK hP 0 rfl rfl 7 (by decide) (by decide +kernel) rfl dX1_isTaken_21 ?_
        refine lv_iload_n S.1 S.2.1 dX1_isTaken_24 rfl (lv_at hl 0 rfl) ?_
        have hin_105 : vp_in i 6 := (in_of (n := 6) (by  omega) (by  omega))
        refine va_iald S.1 S.2.1 hK.1 hP 2 0 rfl rfl hin_105 dX1_isTaken_25 ?_
        refine lv_topi (fun x_106 ex_106 => ?_)
        have tx_106 := rng_get (x := x_106) (show rng fh 6 (0) (79) by assumption) hin_105 ex_106
        refine lv_iload_n S.1 S.2.1 dX1_isTaken_26 rfl (lv_at hl 2 rfl) ?_
        refine lv_icmp_ne (tgt := 32) S.1 S.2.1 dX1_isTaken_27 (by decide) (fun c_107 => ?_) (fun c_107 => ?_)
        · rw [eq2 (a := x_106) (b := k) (A := x_106.toInt) (B := k.toInt) rfl rfl] at c_107
          obtain ⟨x_108, ex_108⟩ : ∃ y : Int32, y = i + Int32.ofInt (1) := ⟨_, rfl⟩
          refine lv_iinc (v := x_108) (lv' := [(2, .int x_108), (0, .ref ct), (1, .int k)]) S.1 S.2.1 dX1_isTaken_32 hl (k := 0) rfl ex_108.symm (by decide) rfl (fun ls hl => ?_)
          have tx_108 : x_108.toInt = i.toInt + (1) := addI (A := i.toInt) (B := 1) ex_108 rfl rfl (by  omega) (by  omega)
          refine lv_goto (tgt := 2) S.1 S.2.1 dX1_isTaken_35 (by decide) ?_
          exact ih x_108 (by first | with_reducible assumption | assumption | omega | decide | (rw [show Int32.toInt 0 = 0 from rfl]; omega)) (by first | with_reducible assumption | assumption | omega | decide | (rw [show Int32.toInt 0 = 0 from rfl]; omega)) (by first | with_reducible assumption | decide | (and_intros <;> first | with_reducible assumption | (intros; refine Int.le_antisymm ?_ ?_ <;> omega) | omega) | assumption | (rw [show Int32.toInt 0 = 0 from rfl]; omega)) (by first | (and_intros <;> first | with_reducible assumption | (refine Int.le_antisymm ?_ ?_ <;> omega) | omega) | omega) H _ ls hP hD hS (lv_sub hl [0, 1, 2] rfl)
        · rw [eq2 (a := x_106) (b := k) (A := x_106.toInt) (B := k.toInt) rfl rfl] at c_107
          refine lv_iconst (v := (1)) S.1 S.2.1 dX1_isTaken_30 (by decide) ?_
          exact b_zret S.1 S.2.1 X.2.1 X.2.2.1 rfl hP hD hS (Or.inl ⟨rfl, rfl⟩) dX1_isTaken_31
set_option maxHeartbeats 4000000 in
set_option maxRecDepth 100000 in
theorem s_X1_isTaken (l : Launch) (D : va_G) (cI cZ cC cS : ClassId) (sq : Nat → Nat) (sz : Nat) (ct : Nat) (aPlaces : Nat) (aHomes : Nat) (k : Int32) (cw : Int32) (ch : Int32) (cp : Int32) (aCells : Nat) (aPrices : Nat) (aFree : Nat) (aManners : Nat) (aGone : Nat) (aPaid : Nat) (aBlinks : Nat) (fl : Nat → Int32) (fh : Nat → Int32) (hrg_fl : rng fl 6 (0) (79)) (hrg_fh : rng fh 6 (0) (79)) (hp : 0 ≤ cp.toInt ∧ cp.toInt ≤ 6) : mI l yX1_isTaken wsX1_isTaken 0 0 D (tyW cI cZ cC cS) sq [(ct, .inr (1, [.int cw, .int ch, .int cp, .ref aCells, .ref aPrices, .ref aFree, .ref aPlaces, .ref aHomes, .ref aManners, .ref aGone, .ref aPaid, .ref aBlinks])), (aPlaces, .inl (cI, 6, .inl fl)), (aHomes, .inl (cI, 6, .inl fh))] sz [.ref ct, .int k] (fun r w => (r = 1 ∧ w = [(ct, .inr (1, [.int cw, .int ch, .int cp, .ref aCells, .ref aPrices, .ref aFree, .ref aPlaces, .ref aHomes, .ref aManners, .ref aGone, .ref aPaid, .ref aBlinks])), (aPlaces, .inl (cI, 6, .inl fl)), (aHomes, .inl (cI, 6, .inl fh))]) ∨ (r = 0 ∧ w = [(ct, .inr (1, [.int cw, .int ch, .int cp, .ref aCells, .ref aPrices, .ref aFree, .ref aPlaces, .ref aHomes, .ref aManners, .ref aGone, .ref aPaid, .ref aBlinks])), (aPlaces, .inl (cI, 6, .inl fl)), (aHomes, .inl (cI, 6, .inl fh))])) := by
  refine b_metI (cc := cX1_isTaken) (maxL := 3) (ret := (some .boolean)) (by decide) rfl (Nat.le_of_ble_eq_true rfl) ?_
  intro p e s m below meth c ls A H X hsz hP hK hT hD hA hS hl
  have S : CallFix p m c cX1_isTaken 3 s ([.ref ct, .int k] : List Value).toArray wsX1_isTaken RX1 := X.1
  have hl : lv_has ls 3 [(0, .ref ct), (1, .int k)] := hl
  refine lv_iconst (v := (0)) S.1 S.2.1 dX1_isTaken_0 (by decide) ?_
  refine lv_istore_n (lv' := [(2, .int 0), (0, .ref ct), (1, .int k)]) S.1 S.2.1 dX1_isTaken_1 rfl hl (by decide) rfl (fun ls hl => ?_)
  refine lp_isTaken l D cI cZ cC cS sq ct aPlaces aHomes k cw ch cp aCells aPrices aFree aManners aGone aPaid aBlinks fl fh hrg_fl hrg_fh hp X hK hT hA (fun i_1 hi_2 hi_3 hi_4 H locs ls hP hD hS hl => ?_) _ (0) (by first | with_reducible assumption | assumption | omega | decide | (rw [show Int32.toInt 0 = 0 from rfl]; omega)) (by first | with_reducible assumption | assumption | omega | decide | (rw [show Int32.toInt 0 = 0 from rfl]; omega)) (by first | with_reducible assumption | decide | (and_intros <;> first | with_reducible assumption | (intros; refine Int.le_antisymm ?_ ?_ <;> omega) | omega) | assumption | (rw [show Int32.toInt 0 = 0 from rfl]; omega)) (Nat.lt_succ_self _) H _ ls hP hD hS (lv_sub hl [0, 1, 2] rfl)
  refine lv_iconst (v := (0)) S.1 S.2.1 dX1_isTaken_38 (by decide) ?_
  exact b_zret S.1 S.2.1 X.2.1 X.2.2.1 rfl hP hD hS (Or.inr (⟨rfl, rfl⟩)) dX1_isTaken_39
set_option maxHeartbeats 4000000 in
set_option maxRecDepth 100000 in
theorem s_X1_pays (l : Launch) (D : va_G) (cI cZ cC cS : ClassId) (sq : Nat → Nat) (sz : Nat) (ct : Nat) (aManners : Nat) (aFree : Nat) (a : Int32) (b : Int32) (cw : Int32) (ch : Int32) (cp : Int32) (aCells : Nat) (aPrices : Nat) (aPlaces : Nat) (aHomes : Nat) (aGone : Nat) (aPaid : Nat) (aBlinks : Nat) (fm : Nat → Int32) (ff : Nat → Int32) (ha : 0 ≤ a.toInt ∧ a.toInt < 6) (hb : 0 ≤ b.toInt ∧ b.toInt < 6) : mI l yX1_pays wsX1_pays 0 0 D (tyW cI cZ cC cS) sq [(ct, .inr (1, [.int cw, .int ch, .int cp, .ref aCells, .ref aPrices, .ref aFree, .ref aPlaces, .ref aHomes, .ref aManners, .ref aGone, .ref aPaid, .ref aBlinks])), (aManners, .inl (cI, 6, .inl fm)), (aFree, .inl (cI, 6, .inl ff))] sz [.ref ct, .int a, .int b] (fun r w => ((¬ ((fm a.toNatClampNeg).toInt = 1 ∧ ¬ (ff b.toNatClampNeg).toInt = 0)) ∧ r = 1 ∧ w = [(ct, .inr (1, [.int cw, .int ch, .int cp, .ref aCells, .ref aPrices, .ref aFree, .ref aPlaces, .ref aHomes, .ref aManners, .ref aGone, .ref aPaid, .ref aBlinks])), (aManners, .inl (cI, 6, .inl fm)), (aFree, .inl (cI, 6, .inl ff))]) ∨ (((fm a.toNatClampNeg).toInt = 1 ∧ ¬ (ff b.toNatClampNeg).toInt = 0) ∧ r = 0 ∧ w = [(ct, .inr (1, [.int cw, .int ch, .int cp, .ref aCells, .ref aPrices, .ref aFree, .ref aPlaces, .ref aHomes, .ref aManners, .ref aGone, .ref aPaid, .ref aBlinks])), (aManners, .inl (cI, 6, .inl fm)), (aFree, .inl (cI, 6, .inl ff))])) := by
  refine b_metI (cc := cX1_pays) (maxL := 3) (ret := (some .boolean)) (by decide) rfl (Nat.le_of_ble_eq_true rfl) ?_
  intro p e s m below meth c ls A H X hsz hP hK hT hD hA hS hl
  have S : CallFix p m c cX1_pays 3 s ([.ref ct, .int a, .int b] : List Value).toArray wsX1_pays RX1 := X.1
  have hl : lv_has ls 3 [(0, .ref ct), (1, .int a), (2, .int b)] := hl
  have iX1 := jX1_pays_X1
  refine lv_aload_n S.1 S.2.1 dX1_pays_0 rfl (lv_at hl 0 rfl) ?_
  refine b_get (v := .ref aManners) S iX1 hK hP 0 rfl rfl 8 (by decide) (by decide +kernel) rfl dX1_pays_1 ?_
  refine lv_iload_n S.1 S.2.1 dX1_pays_4 rfl (lv_at hl 1 rfl) ?_
  have hin_1 : vp_in a 6 := (in_of (n := 6) (by  omega) (by  omega))
  refine va_iald S.1 S.2.1 hK.1 hP 1 0 rfl rfl hin_1 dX1_pays_5 ?_
  refine lv_topi (fun x_2 ex_2 => ?_)
  have bx_2 : x_2.toInt = (fm a.toNatClampNeg).toInt := by rw [ex_2]
  refine lv_iconst (v := (1)) S.1 S.2.1 dX1_pays_6 (by decide) ?_
  refine lv_icmp_ne (tgt := 19) S.1 S.2.1 dX1_pays_7 (by decide) (fun c_3 => ?_) (fun c_3 => ?_)
  · rw [eq2 (a := x_2) (b := 1) (A := x_2.toInt) (B := 1) rfl rfl] at c_3
    refine lv_iconst (v := (1)) S.1 S.2.1 dX1_pays_19 (by decide) ?_
    refine lv_goto (tgt := 24) S.1 S.2.1 dX1_pays_20 (by decide) ?_
    exact b_zret S.1 S.2.1 X.2.1 X.2.2.1 rfl hP hD hS (Or.inl ⟨(by first | with_reducible assumption | decide | (and_intros <;> first | with_reducible assumption | (intros; refine Int.le_antisymm ?_ ?_ <;> omega) | omega) | assumption | (rw [show Int32.toInt 0 = 0 from rfl]; omega)), rfl, rfl⟩) dX1_pays_24
  · rw [eq2 (a := x_2) (b := 1) (A := x_2.toInt) (B := 1) rfl rfl] at c_3
    refine lv_aload_n S.1 S.2.1 dX1_pays_10 rfl (lv_at hl 0 rfl) ?_
    refine b_get (v := .ref aFree) S iX1 hK hP 0 rfl rfl 5 (by decide) (by decide +kernel) rfl dX1_pays_11 ?_
    refine lv_iload_n S.1 S.2.1 dX1_pays_14 rfl (lv_at hl 2 rfl) ?_
    have hin_4 : vp_in b 6 := (in_of (n := 6) (by  omega) (by  omega))
    refine va_iald S.1 S.2.1 hK.1 hP 2 0 rfl rfl hin_4 dX1_pays_15 ?_
    refine lv_topi (fun x_5 ex_5 => ?_)
    have bx_5 : x_5.toInt = (ff b.toNatClampNeg).toInt := by rw [ex_5]
    refine lv_if_ne (tgt := 23) S.1 S.2.1 dX1_pays_16 (by decide) (fun c_6 => ?_) (fun c_6 => ?_)
    · rw [eq2 (a := x_5) (b := 0) (A := x_5.toInt) (B := 0) rfl rfl] at c_6
      refine lv_iconst (v := (0)) S.1 S.2.1 dX1_pays_23 (by decide) ?_
      exact b_zret S.1 S.2.1 X.2.1 X.2.2.1 rfl hP hD hS (Or.inr (⟨(by first | with_reducible assumption | decide | (and_intros <;> first | with_reducible assumption | (intros; refine Int.le_antisymm ?_ ?_ <;> omega) | omega) | assumption | (rw [show Int32.toInt 0 = 0 from rfl]; omega)), rfl, rfl⟩)) dX1_pays_24
    · rw [eq2 (a := x_5) (b := 0) (A := x_5.toInt) (B := 0) rfl rfl] at c_6
      refine lv_iconst (v := (1)) S.1 S.2.1 dX1_pays_19 (by decide) ?_
      refine lv_goto (tgt := 24) S.1 S.2.1 dX1_pays_20 (by decide) ?_
      exact b_zret S.1 S.2.1 X.2.1 X.2.2.1 rfl hP hD hS (Or.inl ⟨(by first | with_reducible assumption | decide | (and_intros <;> first | with_reducible assumption | (intros; refine Int.le_antisymm ?_ ?_ <;> omega) | omega) | assumption | (rw [show Int32.toInt 0 = 0 from rfl]; omega)), rfl, rfl⟩) dX1_pays_24
set_option maxHeartbeats 4000000 in
set_option maxRecDepth 100000 in
theorem lp_paidBy {p : Program} (l : Launch) {e : Env} {s : State} {m : MethodId} {below : List Frame} {meth : Method} {c : Code} (D : va_G) (cI cZ cC cS : ClassId) (sq : Nat → Nat) (ct : Nat) (aPaid : Nat) (a : Int32) (cw : Int32) (ch : Int32) (cp : Int32) (aCells : Nat) (aPrices : Nat) (aFree : Nat) (aPlaces : Nat) (aHomes : Nat) (aManners : Nat) (aGone : Nat) (aBlinks : Nat) (fd : Nat → Int32) (ha : 0 ≤ a.toInt ∧ a.toInt < 6) {A : Nat → Prop} (X : bX p s m meth c cX1_paidBy 4 wsX1_paidBy yX1_paidBy (some .int) [.ref ct, .int a]) (hK : kW D (tyW cI cZ cC cS) sq s) (hT : sT sq A s s.heap) (hA : ∀ q, s.heap.size ≤ q → A q) (K : ∀ (q : Int32) (i : Int32), (0 ≤ i.toInt ∧ i.toInt ≤ 6) → (q = smO (fun o : Nat => (fd (6 * a.toInt.toNat + o)).toInt) i.toInt.toNat) → (6 ≤ i.toInt) → ∀ (H : Heap) (locs : List Loc) (ls : Array Slot), va_P D vwCl [(ct, .inr (1, [.int cw, .int ch, .int cp, .ref aCells, .ref aPrices, .ref aFree, .ref aPlaces, .ref aHomes, .ref aManners, .ref aGone, .ref aPaid, .ref aBlinks])), (aPaid, .inl (cI, 36, .inl fd))] H → va_D A [(ct, .inr (1, [.int cw, .int ch, .int cp, .ref aCells, .ref aPrices, .ref aFree, .ref aPlaces, .ref aHomes, .ref aManners, .ref aGone, .ref aPaid, .ref aBlinks])), (aPaid, .inl (cI, 36, .inl fd))] → va_S A s.heap H locs → lv_has ls 4 [(3, .int i), (2, .int q), (0, .ref ct), (1, .int a)] → W p l e (rmW 0 0 0 0) s m ([.ref ct, .int a] : List Value).toArray below meth c H locs 0 0 (MQ below (va_Qi (fun r w => ((r = smO (fun o : Nat => (fd (6 * a.toInt.toNat + o)).toInt) 6) ∧ w = [(ct, .inr (1, [.int cw, .int ch, .int cp, .ref aCells, .ref aPrices, .ref aFree, .ref aPlaces, .ref aHomes, .ref aManners, .ref aGone, .ref aPaid, .ref aBlinks])), (aPaid, .inl (cI, 36, .inl fd))])) (wD D A) A) ([.ref ct, .int a] : List Value).toArray s 0 0 A) (F0 m 30 ls [])) : ∀ (mN : Nat) (q : Int32) (i : Int32), (0 ≤ i.toInt ∧ i.toInt ≤ 6) → (q = smO (fun o : Nat => (fd (6 * a.toInt.toNat + o)).toInt) i.toInt.toNat) → ((6 - i.toInt).toNat < mN) → ∀ (H : Heap) (locs : List Loc) (ls : Array Slot), va_P D vwCl [(ct, .inr (1, [.int cw, .int ch, .int cp, .ref aCells, .ref aPrices, .ref aFree, .ref aPlaces, .ref aHomes, .ref aManners, .ref aGone, .ref aPaid, .ref aBlinks])), (aPaid, .inl (cI, 36, .inl fd))] H → va_D A [(ct, .inr (1, [.int cw, .int ch, .int cp, .ref aCells, .ref aPrices, .ref aFree, .ref aPlaces, .ref aHomes, .ref aManners, .ref aGone, .ref aPaid, .ref aBlinks])), (aPaid, .inl (cI, 36, .inl fd))] → va_S A s.heap H locs → lv_has ls 4 [(3, .int i), (2, .int q), (0, .ref ct), (1, .int a)] → W p l e (rmW 0 0 0 0) s m ([.ref ct, .int a] : List Value).toArray below meth c H locs 0 0 (MQ below (va_Qi (fun r w => ((r = smO (fun o : Nat => (fd (6 * a.toInt.toNat + o)).toInt) 6) ∧ w = [(ct, .inr (1, [.int cw, .int ch, .int cp, .ref aCells, .ref aPrices, .ref aFree, .ref aPlaces, .ref aHomes, .ref aManners, .ref aGone, .ref aPaid, .ref aBlinks])), (aPaid, .inl (cI, 36, .inl fd))])) (wD D A) A) ([.ref ct, .int a] : List Value).toArray s 0 0 A) (F0 m 4 ls []) := by
  have S : CallFix p m c cX1_paidBy 4 s ([.ref ct, .int a] : List Value).toArray wsX1_paidBy RX1 := X.1
  have iX1 := jX1_paidBy_X1
  intro mN
  induction mN with
  | zero => intro q i hi hsm hm; exact absurd hm (Nat.not_lt_zero _)
  | succ mN ih =>
    intro q i hi hsm hm H locs ls hP hD hS hl
    refine lv_iload_n S.1 S.2.1 dX1_paidBy_4 rfl (lv_at hl 0 rfl) ?_
    refine lv_bipush (v := (6)) S.1 S.2.1 dX1_paidBy_5 (by decide) ?_
    refine lv_icmp_ge (tgt := 30) S.1 S.2.1 dX1_paidBy_7 (by decide) (fun c_101 => ?_) (fun c_101 => ?_)
    · rw [le2 (a := 6) (b := i) (A := 6) (B := i.toInt) rfl rfl] at c_101
      exact K q i (by first | with_reducible assumption | decide | (and_intros <;> first | with_reducible assumption | (intros; refine Int.le_antisymm ?_ ?_ <;> omega) | omega) | assumption | (rw [show Int32.toInt 0 = 0 from rfl]; omega)) (by first | assumption | exact smO_st hsm (by first | with_reducible assumption | assumption) (by first | with_reducible assumption | assumption) (by first | (and_intros <;> first | with_reducible assumption | (refine Int.le_antisymm ?_ ?_ <;> omega) | omega) | omega) (by first | (and_intros <;> first | with_reducible assumption | (refine Int.le_antisymm ?_ ?_ <;> omega) | omega) | omega)) (by first | with_reducible assumption | decide | (and_intros <;> first | with_reducible assumption | (intros; refine Int.le_antisymm ?_ ?_ <;> omega) | omega) | assumption | (rw [show Int32.toInt 0 = 0 from rfl]; omega)) H _ ls hP hD hS (lv_sub hl [0, 1, 2, 3] rfl)
    · rw [le2 (a := 6) (b := i) (A := 6) (B := i.toInt) rfl rfl] at c_101
      refine lv_iload_n S.1 S.2.1 dX1_paidBy_10 rfl (lv_at hl 1 rfl) ?_
      refine lv_aload_n S.1 S.2.1 dX1_paidBy_11 rfl (lv_at hl 2 rfl) ?_
      refine b_get (v := .ref aPaid) S iX1 hK hP 0 rfl rfl 10 (by decide) (by decide +kernel) rfl dX1_paidBy_12 ?_
      refine lv_iload_n S.1 S.2.1 dX1_paidBy_15 rfl (lv_at hl 3 rfl) ?_
      refine lv_bipush (v := (6)) S.1 S.2.1 dX1_paidBy_16 (by decide) ?_
      refine lv_imul S.1 S.2.1 dX1_paidBy_18 ?_
      refine lv_topi (fun x_102 ex_102 => ?_)
      have tx_102 : x_102.toInt = a.toInt * 6 := mulI (A := a.toInt) (B := 6) ex_102 rfl rfl (by  omega) (by  omega)
      refine lv_iload_n S.1 S.2.1 dX1_paidBy_19 rfl (lv_at hl 0 rfl) ?_
      refine lv_iadd S.1 S.2.1 dX1_paidBy_20 ?_
      refine lv_topi (fun x_103 ex_103 => ?_)
      have tx_103 : x_103.toInt = x_102.toInt + (i.toInt) := addI (A := x_102.toInt) (B := i.toInt) ex_103 rfl rfl (by  omega) (by  omega)
      have hin_104 : vp_in x_103 36 := (in_of (n := 36) (by  omega) (by  omega))
      refine va_iald S.1 S.2.1 hK.1 hP 1 0 rfl rfl hin_104 dX1_paidBy_21 ?_
      refine lv_topi (fun x_105 ex_105 => ?_)
      have bx_105 : x_105.toInt = (fd (6 * a.toInt.toNat + i.toInt.toNat)).toInt := by rw [ex_105]; exact congrArg (fun z => (fd z).toInt) (by show (x_103).toInt.toNat = _; omega)
      refine lv_iadd S.1 S.2.1 dX1_paidBy_22 ?_
      refine lv_topi (fun x_106 ex_106 => ?_)
      refine lv_istore_n (lv' := [(2, .int x_106), (3, .int i), (0, .ref ct), (1, .int a)]) S.1 S.2.1 dX1_paidBy_23 rfl hl (by decide) rfl (fun ls hl => ?_)
      obtain ⟨x_107, ex_107⟩ : ∃ y : Int32, y = i + Int32.ofInt (1) := ⟨_, rfl⟩
      refine lv_iinc (v := x_107) (lv' := [(3, .int x_107), (2, .int x_106), (0, .ref ct), (1, .int a)]) S.1 S.2.1 dX1_paidBy_24 hl (k := 1) rfl ex_107.symm (by decide) rfl (fun ls hl => ?_)
      have tx_107 : x_107.toInt = i.toInt + (1) := addI (A := i.toInt) (B := 1) ex_107 rfl rfl (by  omega) (by  omega)
      refine lv_goto (tgt := 4) S.1 S.2.1 dX1_paidBy_27 (by decide) ?_
      exact ih x_106 x_107 (by first | with_reducible assumption | decide | (and_intros <;> first | with_reducible assumption | (intros; refine Int.le_antisymm ?_ ?_ <;> omega) | omega) | assumption | (rw [show Int32.toInt 0 = 0 from rfl]; omega)) (by first | assumption | exact smO_st hsm (by first | with_reducible assumption | assumption) (by first | with_reducible assumption | assumption) (by first | (and_intros <;> first | with_reducible assumption | (refine Int.le_antisymm ?_ ?_ <;> omega) | omega) | omega) (by first | (and_intros <;> first | with_reducible assumption | (refine Int.le_antisymm ?_ ?_ <;> omega) | omega) | omega)) (by first | (and_intros <;> first | with_reducible assumption | (refine Int.le_antisymm ?_ ?_ <;> omega) | omega) | omega) H _ ls hP hD hS (lv_sub hl [0, 1, 2, 3] rfl)
set_option maxHeartbeats 4000000 in
set_option maxRecDepth 100000 in
theorem s_X1_paidBy (l : Launch) (D : va_G) (cI cZ cC cS : ClassId) (sq : Nat → Nat) (sz : Nat) (ct : Nat) (aPaid : Nat) (a : Int32) (cw : Int32) (ch : Int32) (cp : Int32) (aCells : Nat) (aPrices : Nat) (aFree : Nat) (aPlaces : Nat) (aHomes : Nat) (aManners : Nat) (aGone : Nat) (aBlinks : Nat) (fd : Nat → Int32) (ha : 0 ≤ a.toInt ∧ a.toInt < 6) : mI l yX1_paidBy wsX1_paidBy 0 0 D (tyW cI cZ cC cS) sq [(ct, .inr (1, [.int cw, .int ch, .int cp, .ref aCells, .ref aPrices, .ref aFree, .ref aPlaces, .ref aHomes, .ref aManners, .ref aGone, .ref aPaid, .ref aBlinks])), (aPaid, .inl (cI, 36, .inl fd))] sz [.ref ct, .int a] (fun r w => ((r = smO (fun o : Nat => (fd (6 * a.toInt.toNat + o)).toInt) 6) ∧ w = [(ct, .inr (1, [.int cw, .int ch, .int cp, .ref aCells, .ref aPrices, .ref aFree, .ref aPlaces, .ref aHomes, .ref aManners, .ref aGone, .ref aPaid, .ref aBlinks])), (aPaid, .inl (cI, 36, .inl fd))])) := by
  refine b_metI (cc := cX1_paidBy) (maxL := 4) (ret := (some .int)) (by decide) rfl (Nat.le_of_ble_eq_true rfl) ?_
  intro p e s m below meth c ls A H X hsz hP hK hT hD hA hS hl
  have S : CallFix p m c cX1_paidBy 4 s ([.ref ct, .int a] : List Value).toArray wsX1_paidBy RX1 := X.1
  have hl : lv_has ls 4 [(0, .ref ct), (1, .int a)] := hl
  refine lv_iconst (v := (0)) S.1 S.2.1 dX1_paidBy_0 (by decide) ?_
  refine lv_istore_n (lv' := [(2, .int 0), (0, .ref ct), (1, .int a)]) S.1 S.2.1 dX1_paidBy_1 rfl hl (by decide) rfl (fun ls hl => ?_)
  refine lv_iconst (v := (0)) S.1 S.2.1 dX1_paidBy_2 (by decide) ?_
  refine lv_istore_n (lv' := [(3, .int 0), (2, .int 0), (0, .ref ct), (1, .int a)]) S.1 S.2.1 dX1_paidBy_3 rfl hl (by decide) rfl (fun ls hl => ?_)
  refine lp_paidBy l D cI cZ cC cS sq ct aPaid a cw ch cp aCells aPrices aFree aPlaces aHomes aManners aGone aBlinks fd ha X hK hT hA (fun q_1 i_2 hi_3 hi_4 hi_5 H locs ls hP hD hS hl => ?_) _ (0) (0) (by first | with_reducible assumption | decide | (and_intros <;> first | with_reducible assumption | (intros; refine Int.le_antisymm ?_ ?_ <;> omega) | omega) | assumption | (rw [show Int32.toInt 0 = 0 from rfl]; omega)) rfl (Nat.lt_succ_self _) H _ ls hP hD hS (lv_sub hl [0, 1, 2, 3] rfl)
  refine lv_iload_n S.1 S.2.1 dX1_paidBy_30 rfl (lv_at hl 1 rfl) ?_
  exact b_iret S.1 S.2.1 X.2.1 X.2.2.1 hP hD hS ⟨(smO_N (by first | with_reducible assumption | assumption) (by first | (and_intros <;> first | with_reducible assumption | (refine Int.le_antisymm ?_ ?_ <;> omega) | omega) | omega) (by first | (and_intros <;> first | with_reducible assumption | (refine Int.le_antisymm ?_ ?_ <;> omega) | omega) | omega)), rfl⟩ dX1_paidBy_31
set_option maxHeartbeats 4000000 in
set_option maxRecDepth 100000 in
theorem lp_paidTo {p : Program} (l : Launch) {e : Env} {s : State} {m : MethodId} {below : List Frame} {meth : Method} {c : Code} (D : va_G) (cI cZ cC cS : ClassId) (sq : Nat → Nat) (ct : Nat) (aPaid : Nat) (a : Int32) (cw : Int32) (ch : Int32) (cp : Int32) (aCells : Nat) (aPrices : Nat) (aFree : Nat) (aPlaces : Nat) (aHomes : Nat) (aManners : Nat) (aGone : Nat) (aBlinks : Nat) (fd : Nat → Int32) (hp : 0 ≤ cp.toInt ∧ cp.toInt ≤ 6) (ha : 0 ≤ a.toInt ∧ a.toInt < 6) {A : Nat → Prop} (X : bX p s m meth c cX1_paidTo 4 wsX1_paidTo yX1_paidTo (some .int) [.ref ct, .int a]) (hK : kW D (tyW cI cZ cC cS) sq s) (hT : sT sq A s s.heap) (hA : ∀ q, s.heap.size ≤ q → A q) (K : ∀ (q : Int32) (i : Int32), (0 ≤ i.toInt ∧ i.toInt ≤ cp.toInt) → (q = smO (fun p : Nat => (fd (6 * p + a.toInt.toNat)).toInt) i.toInt.toNat) → (cp.toInt ≤ i.toInt) → ∀ (H : Heap) (locs : List Loc) (ls : Array Slot), va_P D vwCl [(ct, .inr (1, [.int cw, .int ch, .int cp, .ref aCells, .ref aPrices, .ref aFree, .ref aPlaces, .ref aHomes, .ref aManners, .ref aGone, .ref aPaid, .ref aBlinks])), (aPaid, .inl (cI, 36, .inl fd))] H → va_D A [(ct, .inr (1, [.int cw, .int ch, .int cp, .ref aCells, .ref aPrices, .ref aFree, .ref aPlaces, .ref aHomes, .ref aManners, .ref aGone, .ref aPaid, .ref aBlinks])), (aPaid, .inl (cI, 36, .inl fd))] → va_S A s.heap H locs → lv_has ls 4 [(3, .int i), (2, .int q), (0, .ref ct), (1, .int a)] → W p l e (rmW 0 0 0 0) s m ([.ref ct, .int a] : List Value).toArray below meth c H locs 0 0 (MQ below (va_Qi (fun r w => ((r = smO (fun p : Nat => (fd (6 * p + a.toInt.toNat)).toInt) cp.toInt.toNat) ∧ w = [(ct, .inr (1, [.int cw, .int ch, .int cp, .ref aCells, .ref aPrices, .ref aFree, .ref aPlaces, .ref aHomes, .ref aManners, .ref aGone, .ref aPaid, .ref aBlinks])), (aPaid, .inl (cI, 36, .inl fd))])) (wD D A) A) ([.ref ct, .int a] : List Value).toArray s 0 0 A) (F0 m 32 ls [])) : ∀ (mN : Nat) (q : Int32) (i : Int32), (0 ≤ i.toInt ∧ i.toInt ≤ cp.toInt) → (q = smO (fun p : Nat => (fd (6 * p + a.toInt.toNat)).toInt) i.toInt.toNat) → ((6 - i.toInt).toNat < mN) → ∀ (H : Heap) (locs : List Loc) (ls : Array Slot), va_P D vwCl [(ct, .inr (1, [.int cw, .int ch, .int cp, .ref aCells, .ref aPrices, .ref aFree, .ref aPlaces, .ref aHomes, .ref aManners, .ref aGone, .ref aPaid, .ref aBlinks])), (aPaid, .inl (cI, 36, .inl fd))] H → va_D A [(ct, .inr (1, [.int cw, .int ch, .int cp, .ref aCells, .ref aPrices, .ref aFree, .ref aPlaces, .ref aHomes, .ref aManners, .ref aGone, .ref aPaid, .ref aBlinks])), (aPaid, .inl (cI, 36, .inl fd))] → va_S A s.heap H locs → lv_has ls 4 [(3, .int i), (2, .int q), (0, .ref ct), (1, .int a)] → W p l e (rmW 0 0 0 0) s m ([.ref ct, .int a] : List Value).toArray below meth c H locs 0 0 (MQ below (va_Qi (fun r w => ((r = smO (fun p : Nat => (fd (6 * p + a.toInt.toNat)).toInt) cp.toInt.toNat) ∧ w = [(ct, .inr (1, [.int cw, .int ch, .int cp, .ref aCells, .ref aPrices, .ref aFree, .ref aPlaces, .ref aHomes, .ref aManners, .ref aGone, .ref aPaid, .ref aBlinks])), (aPaid, .inl (cI, 36, .inl fd))])) (wD D A) A) ([.ref ct, .int a] : List Value).toArray s 0 0 A) (F0 m 4 ls []) := by
  have S : CallFix p m c cX1_paidTo 4 s ([.ref ct, .int a] : List Value).toArray wsX1_paidTo RX1 := X.1
  have iX1 := jX1_paidTo_X1
  intro mN
  induction mN with
  | zero => intro q i hi hsm hm; exact absurd hm (Nat.not_lt_zero _)
  | succ mN ih =>
    intro q i hi hsm hm H locs ls hP hD hS hl
    refine lv_iload_n S.1 S.2.1 dX1_paidTo_4 rfl (lv_at hl 0 rfl) ?_
    refine lv_aload_n S.1 S.2.1 dX1_paidTo_5 rfl (lv_at hl 2 rfl) ?_
    refine b_get (v := .int cp) S iX1 hK hP 0 rfl rfl 2 (by decide) (by decide +kernel) rfl dX1_paidTo_6 ?_
    refine lv_icmp_ge (tgt := 32) S.1 S.2.1 dX1_paidTo_9 (by decide) (fun c_101 => ?_) (fun c_101 => ?_)
    · rw [le2 (a := cp) (b := i) (A := cp.toInt) (B := i.toInt) rfl rfl] at c_101
      exact K q i (by first | with_reducible assumption | decide | (and_intros <;> first | with_reducible assumption | (intros; refine Int.le_antisymm ?_ ?_ <;> omega) | omega) | assumption | (rw [show Int32.toInt 0 = 0 from rfl]; omega)) (by first | assumption | exact smO_st hsm (by first | with_reducible assumption | assumption) (by first | with_reducible assumption | assumption) (by first | (and_intros <;> first | with_reducible assumption | (refine Int.le_antisymm ?_ ?_ <;> omega) | omega) | omega) (by first | (and_intros <;> first | with_reducible assumption | (refine Int.le_antisymm ?_ ?_ <;> omega) | omega) | omega)) (by first | with_reducible assumption | decide | (and_intros <;> first | with_reducible assumption | (intros; refine Int.le_antisymm ?_ ?_ <;> omega) | omega) | assumption | (rw [show Int32.toInt 0 = 0 from rfl]; omega)) H _ ls hP hD hS (lv_sub hl [0, 1, 2, 3] rfl)
    · rw [le2 (a := cp) (b := i) (A := cp.toInt) (B := i.toInt) rfl rfl] at c_101
      refine lv_iload_n S.1 S.2.1 dX1_paidTo_12 rfl (lv_at hl 1 rfl) ?_
      refine lv_aload_n S.1 S.2.1 dX1_paidTo_13 rfl (lv_at hl 2 rfl) ?_
      refine b_get (v := .ref aPaid) S iX1 hK hP 0 rfl rfl 10 (by decide) (by decide +kernel) rfl dX1_paidTo_14 ?_
      refine lv_iload_n S.1 S.2.1 dX1_paidTo_17 rfl (lv_at hl 0 rfl) ?_
      refine lv_bipush (v := (6)) S.1 S.2.1 dX1_paidTo_18 (by decide) ?_
      refine lv_imul S.1 S.2.1 dX1_paidTo_20 ?_
      refine lv_topi (fun x_102 ex_102 => ?_)
      have tx_102 : x_102.toInt = i.toInt * 6 := mulI (A := i.toInt) (B := 6) ex_102 rfl rfl (by  omega) (by  omega)
      refine lv_iload_n S.1 S.2.1 dX1_paidTo_21 rfl (lv_at hl 3 rfl) ?_
      refine lv_iadd S.1 S.2.1 dX1_paidTo_22 ?_
      refine lv_topi (fun x_103 ex_103 => ?_)
      have tx_103 : x_103.toInt = x_102.toInt + (a.toInt) := addI (A := x_102.toInt) (B := a.toInt) ex_103 rfl rfl (by  omega) (by  omega)
      have hin_104 : vp_in x_103 36 := (in_of (n := 36) (by  omega) (by  omega))
      refine va_iald S.1 S.2.1 hK.1 hP 1 0 rfl rfl hin_104 dX1_paidTo_23 ?_
      refine lv_topi (fun x_105 ex_105 => ?_)
      have bx_105 : x_105.toInt = (fd (6 * i.toInt.toNat + a.toInt.toNat)).toInt := by rw [ex_105]; exact congrArg (fun z => (fd z).toInt) (by show (x_103).toInt.toNat = _; omega)
      refine lv_iadd S.1 S.2.1 dX1_paidTo_24 ?_
      refine lv_topi (fun x_106 ex_106 => ?_)
      refine lv_istore_n (lv' := [(2, .int x_106), (3, .int i), (0, .ref ct), (1, .int a)]) S.1 S.2.1 dX1_paidTo_25 rfl hl (by decide) rfl (fun ls hl => ?_)
      obtain ⟨x_107, ex_107⟩ : ∃ y : Int32, y = i + Int32.ofInt (1) := ⟨_, rfl⟩
      refine lv_iinc (v := x_107) (lv' := [(3, .int x_107), (2, .int x_106), (0, .ref ct), (1, .int a)]) S.1 S.2.1 dX1_paidTo_26 hl (k := 1) rfl ex_107.symm (by decide) rfl (fun ls hl => ?_)
      have tx_107 : x_107.toInt = i.toInt + (1) := addI (A := i.toInt) (B := 1) ex_107 rfl rfl (by  omega) (by  omega)
      refine lv_goto (tgt := 4) S.1 S.2.1 dX1_paidTo_29 (by decide) ?_
      exact ih x_106 x_107 (by first | with_reducible assumption | decide | (and_intros <;> first | with_reducible assumption | (intros; refine Int.le_antisymm ?_ ?_ <;> omega) | omega) | assumption | (rw [show Int32.toInt 0 = 0 from rfl]; omega)) (by first | assumption | exact smO_st hsm (by first | with_reducible assumption | assumption) (by first | with_reducible assumption | assumption) (by first | (and_intros <;> first | with_reducible assumption | (refine Int.le_antisymm ?_ ?_ <;> omega) | omega) | omega) (by first | (and_intros <;> first | with_reducible assumption | (refine Int.le_antisymm ?_ ?_ <;> omega) | omega) | omega)) (by first | (and_intros <;> first | with_reducible assumption | (refine Int.le_antisymm ?_ ?_ <;> omega) | omega) | omega) H _ ls hP hD hS (lv_sub hl [0, 1, 2, 3] rfl)
set_option maxHeartbeats 4000000 in
set_option maxRecDepth 100000 in
theorem s_X1_paidTo (l : Launch) (D : va_G) (cI cZ cC cS : ClassId) (sq : Nat → Nat) (sz : Nat) (ct : Nat) (aPaid : Nat) (a : Int32) (cw : Int32) (ch : Int32) (cp : Int32) (aCells : Nat) (aPrices : Nat) (aFree : Nat) (aPlaces : Nat) (aHomes : Nat) (aManners : Nat) (aGone : Nat) (aBlinks : Nat) (fd : Nat → Int32) (hp : 0 ≤ cp.toInt ∧ cp.toInt ≤ 6) (ha : 0 ≤ a.toInt ∧ a.toInt < 6) : mI l yX1_paidTo wsX1_paidTo 0 0 D (tyW cI cZ cC cS) sq [(ct, .inr (1, [.int cw, .int ch, .int cp, .ref aCells, .ref aPrices, .ref aFree, .ref aPlaces, .ref aHomes, .ref aManners, .ref aGone, .ref aPaid, .ref aBlinks])), (aPaid, .inl (cI, 36, .inl fd))] sz [.ref ct, .int a] (fun r w => ((r = smO (fun p : Nat => (fd (6 * p + a.toInt.toNat)).toInt) cp.toInt.toNat) ∧ w = [(ct, .inr (1, [.int cw, .int ch, .int cp, .ref aCells, .ref aPrices, .ref aFree, .ref aPlaces, .ref aHomes, .ref aManners, .ref aGone, .ref aPaid, .ref aBlinks])), (aPaid, .inl (cI, 36, .inl fd))])) := by
  refine b_metI (cc := cX1_paidTo) (maxL := 4) (ret := (some .int)) (by decide) rfl (Nat.le_of_ble_eq_true rfl) ?_
  intro p e s m below meth c ls A H X hsz hP hK hT hD hA hS hl
  have S : CallFix p m c cX1_paidTo 4 s ([.ref ct, .int a] : List Value).toArray wsX1_paidTo RX1 := X.1
  have hl : lv_has ls 4 [(0, .ref ct), (1, .int a)] := hl
  refine lv_iconst (v := (0)) S.1 S.2.1 dX1_paidTo_0 (by decide) ?_
  refine lv_istore_n (lv' := [(2, .int 0), (0, .ref ct), (1, .int a)]) S.1 S.2.1 dX1_paidTo_1 rfl hl (by decide) rfl (fun ls hl => ?_)
  refine lv_iconst (v := (0)) S.1 S.2.1 dX1_paidTo_2 (by decide) ?_
  refine lv_istore_n (lv' := [(3, .int 0), (2, .int 0), (0, .ref ct), (1, .int a)]) S.1 S.2.1 dX1_paidTo_3 rfl hl (by decide) rfl (fun ls hl => ?_)
  refine lp_paidTo l D cI cZ cC cS sq ct aPaid a cw ch cp aCells aPrices aFree aPlaces aHomes aManners aGone aBlinks fd hp ha X hK hT hA (fun q_1 i_2 hi_3 hi_4 hi_5 H locs ls hP hD hS hl => ?_) _ (0) (0) (by first | with_reducible assumption | decide | (and_intros <;> first | with_reducible assumption | (intros; refine Int.le_antisymm ?_ ?_ <;> omega) | omega) | assumption | (rw [show Int32.toInt 0 = 0 from rfl]; omega)) rfl (Nat.lt_succ_self _) H _ ls hP hD hS (lv_sub hl [0, 1, 2, 3] rfl)
  refine lv_iload_n S.1 S.2.1 dX1_paidTo_32 rfl (lv_at hl 1 rfl) ?_
  exact b_iret S.1 S.2.1 X.2.1 X.2.2.1 hP hD hS ⟨(smO_N (by first | with_reducible assumption | assumption) (by first | (and_intros <;> first | with_reducible assumption | (refine Int.le_antisymm ?_ ?_ <;> omega) | omega) | omega) (by first | (and_intros <;> first | with_reducible assumption | (refine Int.le_antisymm ?_ ?_ <;> omega) | omega) | omega)), rfl⟩ dX1_paidTo_33
set_option maxHeartbeats 4000000 in
set_option maxRecDepth 100000 in
theorem lp_unseeing {p : Program} (l : Launch) {e : Env} {s : State} {m : MethodId} {below : List Frame} {meth : Method} {c : Code} (D : va_G) (cI cZ cC cS : ClassId) (sq : Nat → Nat) (ct : Nat) (aBlinks : Nat) (a : Int32) (cw : Int32) (ch : Int32) (cp : Int32) (aCells : Nat) (aPrices : Nat) (aFree : Nat) (aPlaces : Nat) (aHomes : Nat) (aManners : Nat) (aGone : Nat) (aPaid : Nat) (fb : Nat → Int32) (hp : 0 ≤ cp.toInt ∧ cp.toInt ≤ 6) (ha : 0 ≤ a.toInt ∧ a.toInt < 6) {A : Nat → Prop} (X : bX p s m meth c cX1_unseeing 4 wsX1_unseeing yX1_unseeing (some .int) [.ref ct, .int a]) (hK : kW D (tyW cI cZ cC cS) sq s) (hT : sT sq A s s.heap) (hA : ∀ q, s.heap.size ≤ q → A q) (K : ∀ (q : Int32) (i : Int32), (0 ≤ i.toInt ∧ i.toInt ≤ cp.toInt) → (q = wtO (fun p : Nat => (fb (6 * p + a.toInt.toNat)).toInt) i.toInt.toNat) → (cp.toInt ≤ i.toInt) → ∀ (H : Heap) (locs : List Loc) (ls : Array Slot), va_P D vwCl [(ct, .inr (1, [.int cw, .int ch, .int cp, .ref aCells, .ref aPrices, .ref aFree, .ref aPlaces, .ref aHomes, .ref aManners, .ref aGone, .ref aPaid, .ref aBlinks])), (aBlinks, .inl (cI, 36, .inl fb))] H → va_D A [(ct, .inr (1, [.int cw, .int ch, .int cp, .ref aCells, .ref aPrices, .ref aFree, .ref aPlaces, .ref aHomes, .ref aManners, .ref aGone, .ref aPaid, .ref aBlinks])), (aBlinks, .inl (cI, 36, .inl fb))] → va_S A s.heap H locs → lv_has ls 4 [(3, .int i), (2, .int q), (0, .ref ct), (1, .int a)] → W p l e (rmW 0 0 0 0) s m ([.ref ct, .int a] : List Value).toArray below meth c H locs 0 0 (MQ below (va_Qi (fun r w => ((r = wtO (fun p : Nat => (fb (6 * p + a.toInt.toNat)).toInt) cp.toInt.toNat) ∧ w = [(ct, .inr (1, [.int cw, .int ch, .int cp, .ref aCells, .ref aPrices, .ref aFree, .ref aPlaces, .ref aHomes, .ref aManners, .ref aGone, .ref aPaid, .ref aBlinks])), (aBlinks, .inl (cI, 36, .inl fb))])) (wD D A) A) ([.ref ct, .int a] : List Value).toArray s 0 0 A) (F0 m 38 ls [])) : ∀ (mN : Nat) (q : Int32) (i : Int32), (0 ≤ i.toInt ∧ i.toInt ≤ cp.toInt) → (q = wtO (fun p : Nat => (fb (6 * p + a.toInt.toNat)).toInt) i.toInt.toNat) → ((6 - i.toInt).toNat < mN) → ∀ (H : Heap) (locs : List Loc) (ls : Array Slot), va_P D vwCl [(ct, .inr (1, [.int cw, .int ch, .int cp, .ref aCells, .ref aPrices, .ref aFree, .ref aPlaces, .ref aHomes, .ref aManners, .ref aGone, .ref aPaid, .ref aBlinks])), (aBlinks, .inl (cI, 36, .inl fb))] H → va_D A [(ct, .inr (1, [.int cw, .int ch, .int cp, .ref aCells, .ref aPrices, .ref aFree, .ref aPlaces, .ref aHomes, .ref aManners, .ref aGone, .ref aPaid, .ref aBlinks])), (aBlinks, .inl (cI, 36, .inl fb))] → va_S A s.heap H locs → lv_has ls 4 [(3, .int i), (2, .int q), (0, .ref ct), (1, .int a)] → W p l e (rmW 0 0 0 0) s m ([.ref ct, .int a] : List Value).toArray below meth c H locs 0 0 (MQ below (va_Qi (fun r w => ((r = wtO (fun p : Nat => (fb (6 * p + a.toInt.toNat)).toInt) cp.toInt.toNat) ∧ w = [(ct, .inr (1, [.int cw, .int ch, .int cp, .ref aCells, .ref aPrices, .ref aFree, .ref aPlaces, .ref aHomes, .ref aManners, .ref aGone, .ref aPaid, .ref aBlinks])), (aBlinks, .inl (cI, 36, .inl fb))])) (wD D A) A) ([.ref ct, .int a] : List Value).toArray s 0 0 A) (F0 m 4 ls []) := by
  have S : CallFix p m c cX1_unseeing 4 s ([.ref ct, .int a] : List Value).toArray wsX1_unseeing RX1 := X.1
  have iX1 := jX1_unseeing_X1
  intro mN
  induction mN with
  | zero => intro q i hi hsm hm; exact absurd hm (Nat.not_lt_zero _)
  | succ mN ih =>
    intro q i hi hsm hm H locs ls hP hD hS hl
    refine lv_iload_n S.1 S.2.1 dX1_unseeing_4 rfl (lv_at hl 0 rfl) ?_
    refine lv_aload_n S.1 S.2.1 dX1_unseeing_5 rfl (lv_at hl 2 rfl) ?_
    refine b_get (v := .int cp) S iX1 hK hP 0 rfl rfl 2 (by decide) (by decide +kernel) rfl dX1_unseeing_6 ?_
    refine lv_icmp_ge (tgt := 38) S.1 S.2.1 dX1_unseeing_9 (by decide) (fun c_101 => ?_) (fun c_101 => ?_)
    · rw [le2 (a := cp) (b := i) (A := cp.toInt) (B := i.toInt) rfl rfl] at c_101
      exact K q i (by first | with_reducible assumption | decide | (and_intros <;> first | with_reducible assumption | (intros; refine Int.le_antisymm ?_ ?_ <;> omega) | omega) | assumption | (rw [show Int32.toInt 0 = 0 from rfl]; omega)) (by first | exact wtO_y hsm (by show (fb (6 * i.toInt.toNat + a.toInt.toNat)).toInt = 0; omega) (by with_reducible assumption) (by with_reducible assumption) (by first | (and_intros <;> first | with_reducible assumption | (refine Int.le_antisymm ?_ ?_ <;> omega) | omega) | omega) (by first | (and_intros <;> first | with_reducible assumption | (refine Int.le_antisymm ?_ ?_ <;> omega) | omega) | omega) | exact wtO_n hsm (by show ¬ (fb (6 * i.toInt.toNat + a.toInt.toNat)).toInt = 0; omega) (by first | (and_intros <;> first | with_reducible assumption | (refine Int.le_antisymm ?_ ?_ <;> omega) | omega) | omega) (by first | (and_intros <;> first | with_reducible assumption | (refine Int.le_antisymm ?_ ?_ <;> omega) | omega) | omega) | assumption | exact wtO_y hsm (by show (fb (6 * i.toInt.toNat + a.toInt.toNat)).toInt = 0; omega) (by first | with_reducible assumption | assumption) (by first | with_reducible assumption | assumption) (by first | (and_intros <;> first | with_reducible assumption | (refine Int.le_antisymm ?_ ?_ <;> omega) | omega) | omega) (by first | (and_intros <;> first | with_reducible assumption | (refine Int.le_antisymm ?_ ?_ <;> omega) | omega) | omega) | exact wtO_n hsm (by show ¬ (fb (6 * i.toInt.toNat + a.toInt.toNat)).toInt = 0; omega) (by first | (and_intros <;> first | with_reducible assumption | (refine Int.le_antisymm ?_ ?_ <;> omega) | omega) | omega) (by first | (and_intros <;> first | with_reducible assumption | (refine Int.le_antisymm ?_ ?_ <;> omega) | omega) | omega) | assumption) (by first | with_reducible assumption | decide | (and_intros <;> first | with_reducible assumption | (intros; refine Int.le_antisymm ?_ ?_ <;> omega) | omega) | assumption | (rw [show Int32.toInt 0 = 0 from rfl]; omega)) H _ ls hP hD hS (lv_sub hl [0, 1, 2, 3] rfl)
    · rw [le2 (a := cp) (b := i) (A := cp.toInt) (B := i.toInt) rfl rfl] at c_101
      refine lv_aload_n S.1 S.2.1 dX1_unseeing_12 rfl (lv_at hl 2 rfl) ?_
      refine b_get (v := .ref aBlinks) S iX1 hK hP 0 rfl rfl 11 (by decide) (by decide +kernel) rfl dX1_unseeing_13 ?_
      refine lv_iload_n S.1 S.2.1 dX1_unseeing_16 rfl (lv_at hl 0 rfl) ?_
      refine lv_bipush (v := (6)) S.1 S.2.1 dX1_unseeing_17 (by decide) ?_
      refine lv_imul S.1 S.2.1 dX1_unseeing_19 ?_
      refine lv_topi (fun x_102 ex_102 => ?_)
      have tx_102 : x_102.toInt = i.toInt * 6 := mulI (A := i.toInt) (B := 6) ex_102 rfl rfl (by  omega) (by  omega)
      refine lv_iload_n S.1 S.2.1 dX1_unseeing_20 rfl (lv_at hl 3 rfl) ?_
      refine lv_iadd S.1 S.2.1 dX1_unseeing_21 ?_
      refine lv_topi (fun x_103 ex_103 => ?_)
      have tx_103 : x_103.toInt = x_102.toInt + (a.toInt) := addI (A := x_102.toInt) (B := a.toInt) ex_103 rfl rfl (by  omega) (by  omega)
      have hin_104 : vp_in x_103 36 := (in_of (n := 36) (by  omega) (by  omega))
      refine va_iald S.1 S.2.1 hK.1 hP 1 0 rfl rfl hin_104 dX1_unseeing_22 ?_
      refine lv_topi (fun x_105 ex_105 => ?_)
      have bx_105 : x_105.toInt = (fb (6 * i.toInt.toNat + a.toInt.toNat)).toInt := by rw [ex_105]; exact congrArg (fun z => (fb z).toInt) (by show (x_103).toInt.toNat = _; omega)
      refine lv_if_ne (tgt := 32) S.1 S.2.1 dX1_unseeing_23 (by decide) (fun c_106 => ?_) (fun c_106 => ?_)
      · rw [eq2 (a := x_105) (b := 0) (A := x_105.toInt) (B := 0) rfl rfl] at c_106
        obtain ⟨x_107, ex_107⟩ : ∃ y : Int32, y = i + Int32.ofInt (1) := ⟨_, rfl⟩
        refine lv_iinc (v := x_107) (lv' := [(3, .int x_107), (2, .int q), (0, .ref ct), (1, .int a)]) S.1 S.2.1 dX1_unseeing_32 hl (k := 0) rfl ex_107.symm (by decide) rfl (fun ls hl => ?_)
        have tx_107 : x_107.toInt = i.toInt + (1) := addI (A := i.toInt) (B := 1) ex_107 rfl rfl (by  omega) (by  omega)
        refine lv_goto (tgt := 4) S.1 S.2.1 dX1_unseeing_35 (by decide) ?_
        exact ih q x_107 (by first | with_reducible assumption | decide | (and_intros <;> first | with_reducible assumption | (intros; refine Int.le_antisymm ?_ ?_ <;> omega) | omega) | assumption | (rw [show Int32.toInt 0 = 0 from rfl]; omega)) (by first | exact wtO_y hsm (by show (fb (6 * i.toInt.toNat + a.toInt.toNat)).toInt = 0; omega) (by with_reducible assumption) (by with_reducible assumption) (by first | (and_intros <;> first | with_reducible assumption | (refine Int.le_antisymm ?_ ?_ <;> omega) | omega) | omega) (by first | (and_intros <;> first | with_reducible assumption | (refine Int.le_antisymm ?_ ?_ <;> omega) | omega) | omega) | exact wtO_n hsm (by show ¬ (fb (6 * i.toInt.toNat + a.toInt.toNat)).toInt = 0; omega) (by first | (and_intros <;> first | with_reducible assumption | (refine Int.le_antisymm ?_ ?_ <;> omega) | omega) | omega) (by first | (and_intros <;> first | with_reducible assumption | (refine Int.le_antisymm ?_ ?_ <;> omega) | omega) | omega) | assumption | exact wtO_y hsm (by show (fb (6 * i.toInt.toNat + a.toInt.toNat)).toInt = 0; omega) (by first | with_reducible assumption | assumption) (by first | with_reducible assumption | assumption) (by first | (and_intros <;> first | with_reducible assumption | (refine Int.le_antisymm ?_ ?_ <;> omega) | omega) | omega) (by first | (and_intros <;> first | with_reducible assumption | (refine Int.le_antisymm ?_ ?_ <;> omega) | omega) | omega) | exact wtO_n hsm (by show ¬ (fb (6 * i.toInt.toNat + a.toInt.toNat)).toInt = 0; omega) (by first | (and_intros <;> first | with_reducible assumption | (refine Int.le_antisymm ?_ ?_ <;> omega) | omega) | omega) (by first | (and_intros <;> first | with_reducible assumption | (refine Int.le_antisymm ?_ ?_ <;> omega) | omega) | omega) | assumption) (by first | (and_intros <;> first | with_reducible assumption | (refine Int.le_antisymm ?_ ?_ <;> omega) | omega) | omega) H _ ls hP hD hS (lv_sub hl [0, 1, 2, 3] rfl)
      · rw [eq2 (a := x_105) (b := 0) (A := x_105.toInt) (B := 0) rfl rfl] at c_106
        refine lv_iload_n S.1 S.2.1 dX1_unseeing_26 rfl (lv_at hl 1 rfl) ?_
        refine lv_iconst (v := (1)) S.1 S.2.1 dX1_unseeing_27 (by decide) ?_
        refine lv_iload_n S.1 S.2.1 dX1_unseeing_28 rfl (lv_at hl 0 rfl) ?_
        refine lv_ishl S.1 S.2.1 dX1_unseeing_29 ?_
        refine lv_topi (fun x_108 ex_108 => ?_)
        refine lv_ior S.1 S.2.1 dX1_unseeing_30 ?_
        refine lv_topi (fun x_109 ex_109 => ?_)
        refine lv_istore_n (lv' := [(2, .int x_109), (3, .int i), (0, .ref ct), (1, .int a)]) S.1 S.2.1 dX1_unseeing_31 rfl hl (by decide) rfl (fun ls hl => ?_)
        obtain ⟨x_110, ex_110⟩ : ∃ y : Int32, y = i + Int32.ofInt (1) := ⟨_, rfl⟩
        refine lv_iinc (v := x_110) (lv' := [(3, .int x_110), (2, .int x_109), (0, .ref ct), (1, .int a)]) S.1 S.2.1 dX1_unseeing_32 hl (k := 1) rfl ex_110.symm (by decide) rfl (fun ls hl => ?_)
        have tx_110 : x_110.toInt = i.toInt + (1) := addI (A := i.toInt) (B := 1) ex_110 rfl rfl (by  omega) (by  omega)
        refine lv_goto (tgt := 4) S.1 S.2.1 dX1_unseeing_35 (by decide) ?_
        exact ih x_109 x_110 (by first | with_reducible assumption | decide | (and_intros <;> first | with_reducible assumption | (intros; refine Int.le_antisymm ?_ ?_ <;> omega) | omega) | assumption | (rw [show Int32.toInt 0 = 0 from rfl]; omega)) (by first | exact wtO_y hsm (by show (fb (6 * i.toInt.toNat + a.toInt.toNat)).toInt = 0; omega) (by with_reducible assumption) (by with_reducible assumption) (by first | (and_intros <;> first | with_reducible assumption | (refine Int.le_antisymm ?_ ?_ <;> omega) | omega) | omega) (by first | (and_intros <;> first | with_reducible assumption | (refine Int.le_antisymm ?_ ?_ <;> omega) | omega) | omega) | exact wtO_n hsm (by show ¬ (fb (6 * i.toInt.toNat + a.toInt.toNat)).toInt = 0; omega) (by first | (and_intros <;> first | with_reducible assumption | (refine Int.le_antisymm ?_ ?_ <;> omega) | omega) | omega) (by first | (and_intros <;> first | with_reducible assumption | (refine Int.le_antisymm ?_ ?_ <;> omega) | omega) | omega) | assumption | exact wtO_y hsm (by show (fb (6 * i.toInt.toNat + a.toInt.toNat)).toInt = 0; omega) (by first | with_reducible assumption | assumption) (by first | with_reducible assumption | assumption) (by first | (and_intros <;> first | with_reducible assumption | (refine Int.le_antisymm ?_ ?_ <;> omega) | omega) | omega) (by first | (and_intros <;> first | with_reducible assumption | (refine Int.le_antisymm ?_ ?_ <;> omega) | omega) | omega) | exact wtO_n hsm (by show ¬ (fb (6 * i.toInt.toNat + a.toInt.toNat)).toInt = 0; omega) (by first | (and_intros <;> first | with_reducible assumption | (refine Int.le_antisymm ?_ ?_ <;> omega) | omega) | omega) (by first | (and_intros <;> first | with_reducible assumption | (refine Int.le_antisymm ?_ ?_ <;> omega) | omega) | omega) | assumption) (by first | (and_intros <;> first | with_reducible assumption | (refine Int.le_antisymm ?_ ?_ <;> omega) | omega) | omega) H _ ls hP hD hS (lv_sub hl [0, 1, 2, 3] rfl)
set_option maxHeartbeats 4000000 in
set_option maxRecDepth 100000 in
theorem s_X1_unseeing (l : Launch) (D : va_G) (cI cZ cC cS : ClassId) (sq : Nat → Nat) (sz : Nat) (ct : Nat) (aBlinks : Nat) (a : Int32) (cw : Int32) (ch : Int32) (cp : Int32) (aCells : Nat) (aPrices : Nat) (aFree : Nat) (aPlaces : Nat) (aHomes : Nat) (aManners : Nat) (aGone : Nat) (aPaid : Nat) (fb : Nat → Int32) (hp : 0 ≤ cp.toInt ∧ cp.toInt ≤ 6) (ha : 0 ≤ a.toInt ∧ a.toInt < 6) : mI l yX1_unseeing wsX1_unseeing 0 0 D (tyW cI cZ cC cS) sq [(ct, .inr (1, [.int cw, .int ch, .int cp, .ref aCells, .ref aPrices, .ref aFree, .ref aPlaces, .ref aHomes, .ref aManners, .ref aGone, .ref aPaid, .ref aBlinks])), (aBlinks, .inl (cI, 36, .inl fb))] sz [.ref ct, .int a] (fun r w => ((r = wtO (fun p : Nat => (fb (6 * p + a.toInt.toNat)).toInt) cp.toInt.toNat) ∧ w = [(ct, .inr (1, [.int cw, .int ch, .int cp, .ref aCells, .ref aPrices, .ref aFree, .ref aPlaces, .ref aHomes, .ref aManners, .ref aGone, .ref aPaid, .ref aBlinks])), (aBlinks, .inl (cI, 36, .inl fb))])) := by
  refine b_metI (cc := cX1_unseeing) (maxL := 4) (ret := (some .int)) (by decide) rfl (Nat.le_of_ble_eq_true rfl) ?_
  intro p e s m below meth c ls A H X hsz hP hK hT hD hA hS hl
  have S : CallFix p m c cX1_unseeing 4 s ([.ref ct, .int a] : List Value).toArray wsX1_unseeing RX1 := X.1
  have hl : lv_has ls 4 [(0, .ref ct), (1, .int a)] := hl
  refine lv_iconst (v := (0)) S.1 S.2.1 dX1_unseeing_0 (by decide) ?_
  refine lv_istore_n (lv' := [(2, .int 0), (0, .ref ct), (1, .int a)]) S.1 S.2.1 dX1_unseeing_1 rfl hl (by decide) rfl (fun ls hl => ?_)
  refine lv_iconst (v := (0)) S.1 S.2.1 dX1_unseeing_2 (by decide) ?_
  refine lv_istore_n (lv' := [(3, .int 0), (2, .int 0), (0, .ref ct), (1, .int a)]) S.1 S.2.1 dX1_unseeing_3 rfl hl (by decide) rfl (fun ls hl => ?_)
  refine lp_unseeing l D cI cZ cC cS sq ct aBlinks a cw ch cp aCells aPrices aFree aPlaces aHomes aManners aGone aPaid fb hp ha X hK hT hA (fun q_1 i_2 hi_3 hi_4 hi_5 H locs ls hP hD hS hl => ?_) _ (0) (0) (by first | with_reducible assumption | decide | (and_intros <;> first | with_reducible assumption | (intros; refine Int.le_antisymm ?_ ?_ <;> omega) | omega) | assumption | (rw [show Int32.toInt 0 = 0 from rfl]; omega)) rfl (Nat.lt_succ_self _) H _ ls hP hD hS (lv_sub hl [0, 1, 2, 3] rfl)
  refine lv_iload_n S.1 S.2.1 dX1_unseeing_38 rfl (lv_at hl 1 rfl) ?_
  exact b_iret S.1 S.2.1 X.2.1 X.2.2.1 hP hD hS ⟨(wtO_N (by first | with_reducible assumption | assumption) (by first | (and_intros <;> first | with_reducible assumption | (refine Int.le_antisymm ?_ ?_ <;> omega) | omega) | omega) (by first | (and_intros <;> first | with_reducible assumption | (refine Int.le_antisymm ?_ ?_ <;> omega) | omega) | omega)), rfl⟩ dX1_unseeing_39
set_option maxHeartbeats 4000000 in
set_option maxRecDepth 100000 in
theorem s_X1_clear (l : Launch) (D : va_G) (cI cZ cC cS : ClassId) (sq : Nat → Nat) (sz : Nat) (ct : Nat) (aPrices : Nat) (aFree : Nat) (aGone : Nat) (aPaid : Nat) (aBlinks : Nat) (cw : Int32) (ch : Int32) (cp : Int32) (aCells : Nat) (aPlaces : Nat) (aHomes : Nat) (aManners : Nat) (fp : Nat → Int32) (ff : Nat → Int32) (fg : Nat → Int32) (fd : Nat → Int32) (fb : Nat → Int32) : mV l yX1_clear wsX1_clear 1 40 0 0 D (tyW cI cZ cC cS) sq [(ct, .inr (1, [.int cw, .int ch, .int cp, .ref aCells, .ref aPrices, .ref aFree, .ref aPlaces, .ref aHomes, .ref aManners, .ref aGone, .ref aPaid, .ref aBlinks])), (aPrices, .inl (cI, 6, .inl fp)), (aFree, .inl (cI, 6, .inl ff)), (aGone, .inl (cI, 6, .inl fg)), (aPaid, .inl (cI, 36, .inl fd)), (aBlinks, .inl (cI, 36, .inl fb))] sz [.ref ct] (fun w => (∃ (fp2 : Nat → Int32), ∃ (ff2 : Nat → Int32), ∃ (fg2 : Nat → Int32), ∃ (fd2 : Nat → Int32), ∃ (fb2 : Nat → Int32), (zr fp2 6) ∧ (zr ff2 6) ∧ (zr fg2 6) ∧ (zr fd2 36) ∧ (zr fb2 36) ∧ w = [(ct, .inr (1, [.int 0, .int 0, .int 0, .ref aCells, .ref aPrices, .ref aFree, .ref aPlaces, .ref aHomes, .ref aManners, .ref aGone, .ref aPaid, .ref aBlinks])), (aPrices, .inl (cI, 6, .inl fp2)), (aFree, .inl (cI, 6, .inl ff2)), (aGone, .inl (cI, 6, .inl fg2)), (aPaid, .inl (cI, 36, .inl fd2)), (aBlinks, .inl (cI, 36, .inl fb2))])) := by
  refine b_metV (cc := cX1_clear) (maxL := 1) (ret := none) (by decide) rfl (Nat.le_of_ble_eq_true rfl) ?_
  intro p e s m below meth c ls A H X hsz hP hK hT hD hA hS hl
  have S : CallFix p m c cX1_clear 1 s ([.ref ct] : List Value).toArray wsX1_clear RX1 := X.1
  have hl : lv_has ls 1 [(0, .ref ct)] := hl
  have iX1 := jX1_clear_X1
  refine lv_aload_n S.1 S.2.1 dX1_clear_0 rfl (lv_at hl 0 rfl) ?_
  refine lv_iconst (v := (0)) S.1 S.2.1 dX1_clear_1 (by decide) ?_
  refine b_put (v := .int 0) S iX1 tyX1 tyX1_ok nmX1 hK hP hD hS 0 rfl rfl 0 (by decide) (by decide +kernel) rfl rfl rfl (Nat.le_of_ble_eq_true rfl) dX1_clear_2 (fun H locs hP hD hS => ?_)
  have hP : va_P D vwCl [(ct, .inr (1, [.int 0, .int ch, .int cp, .ref aCells, .ref aPrices, .ref aFree, .ref aPlaces, .ref aHomes, .ref aManners, .ref aGone, .ref aPaid, .ref aBlinks])), (aPrices, .inl (cI, 6, .inl fp)), (aFree, .inl (cI, 6, .inl ff)), (aGone, .inl (cI, 6, .inl fg)), (aPaid, .inl (cI, 36, .inl fd)), (aBlinks, .inl (cI, 36, .inl fb))] H := hP
  have hD : va_D A [(ct, .inr (1, [.int 0, .int ch, .int cp, .ref aCells, .ref aPrices, .ref aFree, .ref aPlaces, .ref aHomes, .ref aManners, .ref aGone, .ref aPaid, .ref aBlinks])), (aPrices, .inl (cI, 6, .inl fp)), (aFree, .inl (cI, 6, .inl ff)), (aGone, .inl (cI, 6, .inl fg)), (aPaid, .inl (cI, 36, .inl fd)), (aBlinks, .inl (cI, 36, .inl fb))] := hD
  refine lv_aload_n S.1 S.2.1 dX1_clear_5 rfl (lv_at hl 0 rfl) ?_
  refine lv_iconst (v := (0)) S.1 S.2.1 dX1_clear_6 (by decide) ?_
  refine b_put (v := .int 0) S iX1 tyX1 tyX1_ok nmX1 hK hP hD hS 0 rfl rfl 1 (by decide) (by decide +kernel) rfl rfl rfl (Nat.le_of_ble_eq_true rfl) dX1_clear_7 (fun H locs hP hD hS => ?_)
  have hP : va_P D vwCl [(ct, .inr (1, [.int 0, .int 0, .int cp, .ref aCells, .ref aPrices, .ref aFree, .ref aPlaces, .ref aHomes, .ref aManners, .ref aGone, .ref aPaid, .ref aBlinks])), (aPrices, .inl (cI, 6, .inl fp)), (aFree, .inl (cI, 6, .inl ff)), (aGone, .inl (cI, 6, .inl fg)), (aPaid, .inl (cI, 36, .inl fd)), (aBlinks, .inl (cI, 36, .inl fb))] H := hP
  have hD : va_D A [(ct, .inr (1, [.int 0, .int 0, .int cp, .ref aCells, .ref aPrices, .ref aFree, .ref aPlaces, .ref aHomes, .ref aManners, .ref aGone, .ref aPaid, .ref aBlinks])), (aPrices, .inl (cI, 6, .inl fp)), (aFree, .inl (cI, 6, .inl ff)), (aGone, .inl (cI, 6, .inl fg)), (aPaid, .inl (cI, 36, .inl fd)), (aBlinks, .inl (cI, 36, .inl fb))] := hD
  refine lv_aload_n S.1 S.2.1 dX1_clear_10 rfl (lv_at hl 0 rfl) ?_
  refine lv_iconst (v := (0)) S.1 S.2.1 dX1_clear_11 (by decide) ?_
  refine b_put (v := .int 0) S iX1 tyX1 tyX1_ok nmX1 hK hP hD hS 0 rfl rfl 2 (by decide) (by decide +kernel) rfl rfl rfl (Nat.le_of_ble_eq_true rfl) dX1_clear_12 (fun H locs hP hD hS => ?_)
  have hP : va_P D vwCl [(ct, .inr (1, [.int 0, .int 0, .int 0, .ref aCells, .ref aPrices, .ref aFree, .ref aPlaces, .ref aHomes, .ref aManners, .ref aGone, .ref aPaid, .ref aBlinks])), (aPrices, .inl (cI, 6, .inl fp)), (aFree, .inl (cI, 6, .inl ff)), (aGone, .inl (cI, 6, .inl fg)), (aPaid, .inl (cI, 36, .inl fd)), (aBlinks, .inl (cI, 36, .inl fb))] H := hP
  have hD : va_D A [(ct, .inr (1, [.int 0, .int 0, .int 0, .ref aCells, .ref aPrices, .ref aFree, .ref aPlaces, .ref aHomes, .ref aManners, .ref aGone, .ref aPaid, .ref aBlinks])), (aPrices, .inl (cI, 6, .inl fp)), (aFree, .inl (cI, 6, .inl ff)), (aGone, .inl (cI, 6, .inl fg)), (aPaid, .inl (cI, 36, .inl fd)), (aBlinks, .inl (cI, 36, .inl fb))] := hD
  refine lv_aload_n S.1 S.2.1 dX1_clear_15 rfl (lv_at hl 0 rfl) ?_
  refine b_get (v := .ref aPrices) S iX1 hK hP 0 rfl rfl 4 (by decide) (by decide +kernel) rfl dX1_clear_16 ?_
  refine lv_iconst (v := (0)) S.1 S.2.1 dX1_clear_19 (by decide) ?_
  refine b_av (wr := [(ct, .inr (1, [.int 0, .int 0, .int 0, .ref aCells, .ref aPrices, .ref aFree, .ref aPlaces, .ref aHomes, .ref aManners, .ref aGone, .ref aPaid, .ref aBlinks])), (aFree, .inl (cI, 6, .inl ff)), (aGone, .inl (cI, 6, .inl fg)), (aPaid, .inl (cI, 36, .inl fd)), (aBlinks, .inl (cI, 36, .inl fb))]) (b_runS (As := [.ref aPrices, .int 0]) (s_J7_fill_53178_6 l D cI cZ cC cS sq H.size aPrices fp) S gX1_clear_J7_fill_53178 rfl hdS_J7_fill_53178 ⟨Nat.le_of_ble_eq_true rfl, Nat.le_of_ble_eq_true rfl⟩ ⟨Nat.le_of_ble_eq_true rfl, Nat.le_of_ble_eq_true rfl⟩ hK hT hS hA hP hD [1] rfl (by decide) rfl hl.1 rfl (Nat.le_of_ble_eq_true rfl) dX1_clear_20) hP hD hS hA [1] [0, 2, 3, 4, 5] rfl rfl (by decide) (by decide) (fun w_2 H locs hw_3 hP hD hS => ?_)
  obtain ⟨f2_4, hf_5, rfl⟩ := hw_3
  have hP : va_P D vwCl [(ct, .inr (1, [.int 0, .int 0, .int 0, .ref aCells, .ref aPrices, .ref aFree, .ref aPlaces, .ref aHomes, .ref aManners, .ref aGone, .ref aPaid, .ref aBlinks])), (aFree, .inl (cI, 6, .inl ff)), (aGone, .inl (cI, 6, .inl fg)), (aPaid, .inl (cI, 36, .inl fd)), (aBlinks, .inl (cI, 36, .inl fb)), (aPrices, .inl (cI, 6, .inl f2_4))] H := hP
  have hD : va_D A [(ct, .inr (1, [.int 0, .int 0, .int 0, .ref aCells, .ref aPrices, .ref aFree, .ref aPlaces, .ref aHomes, .ref aManners, .ref aGone, .ref aPaid, .ref aBlinks])), (aFree, .inl (cI, 6, .inl ff)), (aGone, .inl (cI, 6, .inl fg)), (aPaid, .inl (cI, 36, .inl fd)), (aBlinks, .inl (cI, 36, .inl fb)), (aPrices, .inl (cI, 6, .inl f2_4))] := hD
  refine lv_aload_n S.1 S.2.1 dX1_clear_23 rfl (lv_at hl 0 rfl) ?_
  refine b_get (v := .ref aFree) S iX1 hK hP 0 rfl rfl 5 (by decide) (by decide +kernel) rfl dX1_clear_24 ?_
  refine lv_iconst (v := (0)) S.1 S.2.1 dX1_clear_27 (by decide) ?_
  refine b_av (wr := [(ct, .inr (1, [.int 0, .int 0, .int 0, .ref aCells, .ref aPrices, .ref aFree, .ref aPlaces, .ref aHomes, .ref aManners, .ref aGone, .ref aPaid, .ref aBlinks])), (aGone, .inl (cI, 6, .inl fg)), (aPaid, .inl (cI, 36, .inl fd)), (aBlinks, .inl (cI, 36, .inl fb)), (aPrices, .inl (cI, 6, .inl f2_4))]) (b_runS (As := [.ref aFree, .int 0]) (s_J7_fill_53178_6 l D cI cZ cC cS sq H.size aFree ff) S gX1_clear_J7_fill_53178 rfl hdS_J7_fill_53178 ⟨Nat.le_of_ble_eq_true rfl, Nat.le_of_ble_eq_true rfl⟩ ⟨Nat.le_of_ble_eq_true rfl, Nat.le_of_ble_eq_true rfl⟩ hK hT hS hA hP hD [1] rfl (by decide) rfl hl.1 rfl (Nat.le_of_ble_eq_true rfl) dX1_clear_28) hP hD hS hA [1] [0, 2, 3, 4, 5] rfl rfl (by decide) (by decide) (fun w_7 H locs hw_8 hP hD hS => ?_)
  obtain ⟨f2_9, hf_10, rfl⟩ := hw_8
  have hP : va_P D vwCl [(ct, .inr (1, [.int 0, .int 0, .int 0, .ref aCells, .ref aPrices, .ref aFree, .ref aPlaces, .ref aHomes, .ref aManners, .ref aGone, .ref aPaid, .ref aBlinks])), (aGone, .inl (cI, 6, .inl fg)), (aPaid, .inl (cI, 36, .inl fd)), (aBlinks, .inl (cI, 36, .inl fb)), (aPrices, .inl (cI, 6, .inl f2_4)), (aFree, .inl (cI, 6, .inl f2_9))] H := hP
  have hD : va_D A [(ct, .inr (1, [.int 0, .int 0, .int 0, .ref aCells, .ref aPrices, .ref aFree, .ref aPlaces, .ref aHomes, .ref aManners, .ref aGone, .ref aPaid, .ref aBlinks])), (aGone, .inl (cI, 6, .inl fg)), (aPaid, .inl (cI, 36, .inl fd)), (aBlinks, .inl (cI, 36, .inl fb)), (aPrices, .inl (cI, 6, .inl f2_4)), (aFree, .inl (cI, 6, .inl f2_9))] := hD
  refine lv_aload_n S.1 S.2.1 dX1_clear_31 rfl (lv_at hl 0 rfl) ?_
  refine b_get (v := .ref aGone) S iX1 hK hP 0 rfl rfl 9 (by decide) (by decide +kernel) rfl dX1_clear_32 ?_
  refine lv_iconst (v := (0)) S.1 S.2.1 dX1_clear_35 (by decide) ?_
  refine b_av (wr := [(ct, .inr (1, [.int 0, .int 0, .int 0, .ref aCells, .ref aPrices, .ref aFree, .ref aPlaces, .ref aHomes, .ref aManners, .ref aGone, .ref aPaid, .ref aBlinks])), (aPaid, .inl (cI, 36, .inl fd)), (aBlinks, .inl (cI, 36, .inl fb)), (aPrices, .inl (cI, 6, .inl f2_4)), (aFree, .inl (cI, 6, .inl f2_9))]) (b_runS (As := [.ref aGone, .int 0]) (s_J7_fill_53178_6 l D cI cZ cC cS sq H.size aGone fg) S gX1_clear_J7_fill_53178 rfl hdS_J7_fill_53178 ⟨Nat.le_of_ble_eq_true rfl, Nat.le_of_ble_eq_true rfl⟩ ⟨Nat.le_of_ble_eq_true rfl, Nat.le_of_ble_eq_true rfl⟩ hK hT hS hA hP hD [1] rfl (by decide) rfl hl.1 rfl (Nat.le_of_ble_eq_true rfl) dX1_clear_36) hP hD hS hA [1] [0, 2, 3, 4, 5] rfl rfl (by decide) (by decide) (fun w_12 H locs hw_13 hP hD hS => ?_)
  obtain ⟨f2_14, hf_15, rfl⟩ := hw_13
  have hP : va_P D vwCl [(ct, .inr (1, [.int 0, .int 0, .int 0, .ref aCells, .ref aPrices, .ref aFree, .ref aPlaces, .ref aHomes, .ref aManners, .ref aGone, .ref aPaid, .ref aBlinks])), (aPaid, .inl (cI, 36, .inl fd)), (aBlinks, .inl (cI, 36, .inl fb)), (aPrices, .inl (cI, 6, .inl f2_4)), (aFree, .inl (cI, 6, .inl f2_9)), (aGone, .inl (cI, 6, .inl f2_14))] H := hP
  have hD : va_D A [(ct, .inr (1, [.int 0, .int 0, .int 0, .ref aCells, .ref aPrices, .ref aFree, .ref aPlaces, .ref aHomes, .ref aManners, .ref aGone, .ref aPaid, .ref aBlinks])), (aPaid, .inl (cI, 36, .inl fd)), (aBlinks, .inl (cI, 36, .inl fb)), (aPrices, .inl (cI, 6, .inl f2_4)), (aFree, .inl (cI, 6, .inl f2_9)), (aGone, .inl (cI, 6, .inl f2_14))] := hD
  refine lv_aload_n S.1 S.2.1 dX1_clear_39 rfl (lv_at hl 0 rfl) ?_
  refine b_get (v := .ref aPaid) S iX1 hK hP 0 rfl rfl 10 (by decide) (by decide +kernel) rfl dX1_clear_40 ?_
  refine lv_iconst (v := (0)) S.1 S.2.1 dX1_clear_43 (by decide) ?_
  refine b_av (wr := [(ct, .inr (1, [.int 0, .int 0, .int 0, .ref aCells, .ref aPrices, .ref aFree, .ref aPlaces, .ref aHomes, .ref aManners, .ref aGone, .ref aPaid, .ref aBlinks])), (aBlinks, .inl (cI, 36, .inl fb)), (aPrices, .inl (cI, 6, .inl f2_4)), (aFree, .inl (cI, 6, .inl f2_9)), (aGone, .inl (cI, 6, .inl f2_14))]) (b_runS (As := [.ref aPaid, .int 0]) (s_J7_fill_53178_36 l D cI cZ cC cS sq H.size aPaid fd) S gX1_clear_J7_fill_53178 rfl hdS_J7_fill_53178 ⟨Nat.le_of_ble_eq_true rfl, Nat.le_of_ble_eq_true rfl⟩ ⟨Nat.le_of_ble_eq_true rfl, Nat.le_of_ble_eq_true rfl⟩ hK hT hS hA hP hD [1] rfl (by decide) rfl hl.1 rfl (Nat.le_of_ble_eq_true rfl) dX1_clear_44) hP hD hS hA [1] [0, 2, 3, 4, 5] rfl rfl (by decide) (by decide) (fun w_17 H locs hw_18 hP hD hS => ?_)
  obtain ⟨f2_19, hf_20, rfl⟩ := hw_18
  have hP : va_P D vwCl [(ct, .inr (1, [.int 0, .int 0, .int 0, .ref aCells, .ref aPrices, .ref aFree, .ref aPlaces, .ref aHomes, .ref aManners, .ref aGone, .ref aPaid, .ref aBlinks])), (aBlinks, .inl (cI, 36, .inl fb)), (aPrices, .inl (cI, 6, .inl f2_4)), (aFree, .inl (cI, 6, .inl f2_9)), (aGone, .inl (cI, 6, .inl f2_14)), (aPaid, .inl (cI, 36, .inl f2_19))] H := hP
  have hD : va_D A [(ct, .inr (1, [.int 0, .int 0, .int 0, .ref aCells, .ref aPrices, .ref aFree, .ref aPlaces, .ref aHomes, .ref aManners, .ref aGone, .ref aPaid, .ref aBlinks])), (aBlinks, .inl (cI, 36, .inl fb)), (aPrices, .inl (cI, 6, .inl f2_4)), (aFree, .inl (cI, 6, .inl f2_9)), (aGone, .inl (cI, 6, .inl f2_14)), (aPaid, .inl (cI, 36, .inl f2_19))] := hD
  refine lv_aload_n S.1 S.2.1 dX1_clear_47 rfl (lv_at hl 0 rfl) ?_
  refine b_get (v := .ref aBlinks) S iX1 hK hP 0 rfl rfl 11 (by decide) (by decide +kernel) rfl dX1_clear_48 ?_
  refine lv_iconst (v := (0)) S.1 S.2.1 dX1_clear_51 (by decide) ?_
  refine b_av (wr := [(ct, .inr (1, [.int 0, .int 0, .int 0, .ref aCells, .ref aPrices, .ref aFree, .ref aPlaces, .ref aHomes, .ref aManners, .ref aGone, .ref aPaid, .ref aBlinks])), (aPrices, .inl (cI, 6, .inl f2_4)), (aFree, .inl (cI, 6, .inl f2_9)), (aGone, .inl (cI, 6, .inl f2_14)), (aPaid, .inl (cI, 36, .inl f2_19))]) (b_runS (As := [.ref aBlinks, .int 0]) (s_J7_fill_53178_36 l D cI cZ cC cS sq H.size aBlinks fb) S gX1_clear_J7_fill_53178 rfl hdS_J7_fill_53178 ⟨Nat.le_of_ble_eq_true rfl, Nat.le_of_ble_eq_true rfl⟩ ⟨Nat.le_of_ble_eq_true rfl, Nat.le_of_ble_eq_true rfl⟩ hK hT hS hA hP hD [1] rfl (by decide) rfl hl.1 rfl (Nat.le_of_ble_eq_true rfl) dX1_clear_52) hP hD hS hA [1] [0, 2, 3, 4, 5] rfl rfl (by decide) (by decide) (fun w_22 H locs hw_23 hP hD hS => ?_)
  obtain ⟨f2_24, hf_25, rfl⟩ := hw_23
  have hP : va_P D vwCl [(ct, .inr (1, [.int 0, .int 0, .int 0, .ref aCells, .ref aPrices, .ref aFree, .ref aPlaces, .ref aHomes, .ref aManners, .ref aGone, .ref aPaid, .ref aBlinks])), (aPrices, .inl (cI, 6, .inl f2_4)), (aFree, .inl (cI, 6, .inl f2_9)), (aGone, .inl (cI, 6, .inl f2_14)), (aPaid, .inl (cI, 36, .inl f2_19)), (aBlinks, .inl (cI, 36, .inl f2_24))] H := hP
  have hD : va_D A [(ct, .inr (1, [.int 0, .int 0, .int 0, .ref aCells, .ref aPrices, .ref aFree, .ref aPlaces, .ref aHomes, .ref aManners, .ref aGone, .ref aPaid, .ref aBlinks])), (aPrices, .inl (cI, 6, .inl f2_4)), (aFree, .inl (cI, 6, .inl f2_9)), (aGone, .inl (cI, 6, .inl f2_14)), (aPaid, .inl (cI, 36, .inl f2_19)), (aBlinks, .inl (cI, 36, .inl f2_24))] := hD
  exact b_vret S.1 S.2.1 X.2.1 X.2.2.1 hP hD hS ⟨f2_4, f2_9, f2_14, f2_19, f2_24, (by first | with_reducible assumption | assumption | omega | decide | (rw [show Int32.toInt 0 = 0 from rfl]; omega)), (by first | with_reducible assumption | assumption | omega | decide | (rw [show Int32.toInt 0 = 0 from rfl]; omega)), (by first | with_reducible assumption | assumption | omega | decide | (rw [show Int32.toInt 0 = 0 from rfl]; omega)), (by first | with_reducible assumption | assumption | omega | decide | (rw [show Int32.toInt 0 = 0 from rfl]; omega)), (by first | with_reducible assumption | assumption | omega | decide | (rw [show Int32.toInt 0 = 0 from rfl]; omega)), rfl⟩ dX1_clear_55
