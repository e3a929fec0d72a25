set_option maxRecDepth 20000 in
theorem ggJ0_charAt_5068e_J0_isLatin1_aae02 : GoodIn wsJ0_charAt_5068e wsJ0_isLatin1_aae02 := goodIn_r _ [6, 7, 8] (by first | exact rfl | decide +kernel) (by decide +kernel)
set_option maxRecDepth 20000 in
theorem gJ0_charAt_5068e_J0_isLatin1_aae02 : GoodIn wsJ0_charAt_5068e (wsV RJ0 492 RJ0 yJ0_isLatin1_aae02 wsJ0_isLatin1_aae02) := goodIn_app (goodIn_r _ [2, 3, 4, 5] (by first | exact rfl | decide +kernel) (by decide +kernel)) ggJ0_charAt_5068e_J0_isLatin1_aae02
set_option maxRecDepth 20000 in
theorem ggJ0_charAt_5068e_J1_charAt_3b067 : GoodIn wsJ0_charAt_5068e wsJ1_charAt_3b067 := goodIn_r _ [12, 13, 14, 5, 15, 16, 17, 18, 19, 20] (by first | exact rfl | decide +kernel) (by decide +kernel)
set_option maxRecDepth 20000 in
theorem gJ0_charAt_5068e_J1_charAt_3b067 : GoodIn wsJ0_charAt_5068e (va_wsS RJ0 495 yJ1_charAt_3b067 wsJ1_charAt_3b067) := goodIn_app (goodIn_r _ [9, 10, 11] (by first | exact rfl | decide +kernel) (by decide +kernel)) ggJ0_charAt_5068e_J1_charAt_3b067
set_option maxRecDepth 20000 in
theorem ggJ0_checkIndex_df160_J3_checkIndex_8e157 : GoodIn wsJ0_checkIndex_df160 wsJ3_checkIndex_8e157 := goodIn_r _ [5] (by first | exact rfl | decide +kernel) (by decide +kernel)
set_option maxRecDepth 20000 in
theorem gJ0_checkIndex_df160_J3_checkIndex_8e157 : GoodIn wsJ0_checkIndex_df160 (va_wsS RJ0 1059 yJ3_checkIndex_8e157 wsJ3_checkIndex_8e157) := goodIn_app (goodIn_r _ [2, 3, 4] (by first | exact rfl | decide +kernel) (by decide +kernel)) ggJ0_checkIndex_df160_J3_checkIndex_8e157
set_option maxRecDepth 20000 in
theorem ggJ0_length_8abf5_J0_coder_7d493 : GoodIn wsJ0_length_8abf5 wsJ0_coder_7d493 := goodIn_r _ [6, 7, 8] (by first | exact rfl | decide +kernel) (by decide +kernel)
set_option maxRecDepth 20000 in
theorem gJ0_length_8abf5_J0_coder_7d493 : GoodIn wsJ0_length_8abf5 (wsV RJ0 335 RJ0 yJ0_coder_7d493 wsJ0_coder_7d493) := goodIn_app (goodIn_r _ [2, 3, 4, 5] (by first | exact rfl | decide +kernel) (by decide +kernel)) ggJ0_length_8abf5_J0_coder_7d493
set_option maxRecDepth 20000 in
theorem ggJ1_charAt_3b067_J0_checkIndex_df160 : GoodIn wsJ1_charAt_3b067 wsJ0_checkIndex_df160 := goodIn_r _ [4, 5, 6, 7, 8, 9] (by first | exact rfl | decide +kernel) (by decide +kernel)
set_option maxRecDepth 20000 in
theorem gJ1_charAt_3b067_J0_checkIndex_df160 : GoodIn wsJ1_charAt_3b067 (va_wsS RJ1 9 yJ0_checkIndex_df160 wsJ0_checkIndex_df160) := goodIn_app (goodIn_r _ [1, 2, 3] (by first | exact rfl | decide +kernel) (by decide +kernel)) ggJ1_charAt_3b067_J0_checkIndex_df160
set_option maxRecDepth 20000 in
theorem ggX5_isWord_J0_charAt_5068e : GoodIn wsX5_isWord wsJ0_charAt_5068e := goodIn_r _ [25, 15, 26, 27, 28, 13, 29, 20, 21, 30, 31, 32, 33, 34, 35, 36, 37, 38, 39, 40, 41, 42, 43, 44, 45, 46, 47, 48, 49, 50, 51, 52, 53, 54, 55, 56, 57, 58] (by first | exact rfl | decide +kernel) (by decide +kernel)
set_option maxRecDepth 20000 in
theorem gX5_isWord_J0_charAt_5068e : GoodIn wsX5_isWord (wsV RX5 46 RJ0 yJ0_charAt_5068e wsJ0_charAt_5068e) := goodIn_app (goodIn_r _ [22, 23, 24, 13] (by first | exact rfl | decide +kernel) (by decide +kernel)) ggX5_isWord_J0_charAt_5068e
set_option maxRecDepth 20000 in
theorem ggX5_isWord_J0_length_8abf5 : GoodIn wsX5_isWord wsJ0_length_8abf5 := goodIn_r _ [14, 15, 16, 17, 18, 13, 19, 20, 21] (by first | exact rfl | decide +kernel) (by decide +kernel)
set_option maxRecDepth 20000 in
theorem gX5_isWord_J0_length_8abf5 : GoodIn wsX5_isWord (wsV RX5 43 RJ0 yJ0_length_8abf5 wsJ0_length_8abf5) := goodIn_app (goodIn_r _ [10, 11, 12, 13] (by first | exact rfl | decide +kernel) (by decide +kernel)) ggX5_isWord_J0_length_8abf5
set_option maxRecDepth 20000 in
theorem ggX5_isWord_X5_length : GoodIn wsX5_isWord wsX5_length := goodIn_r _ [8, 9, 3, 59, 60, 61, 62, 63, 64] (by first | exact rfl | decide +kernel) (by decide +kernel)
set_option maxRecDepth 20000 in
theorem gX5_isWord_X5_length : GoodIn wsX5_isWord (wsV RX5 39 RX5 yX5_length wsX5_length) := goodIn_app (goodIn_r _ [4, 5, 6, 7] (by first | exact rfl | decide +kernel) (by decide +kernel)) ggX5_isWord_X5_length
set_option maxRecDepth 20000 in
theorem gdJ0_charAt_5068e_0 : decode cJ0_charAt_5068e 0 = .ok (.aload_n 0, 1) ∧ decode cJ0_charAt_5068e 1 = .ok (.invokevirtual 492, 3) ∧ decode cJ0_charAt_5068e 4 = .ok (.ifCond .eq 12, 3) ∧ decode cJ0_charAt_5068e 7 = .ok (.aload_n 0, 1) ∧ decode cJ0_charAt_5068e 8 = .ok (.getfield 9, 3) ∧ decode cJ0_charAt_5068e 11 = .ok (.iload_n 1, 1) ∧ decode cJ0_charAt_5068e 12 = .ok (.invokestatic 495, 3) ∧ decode cJ0_charAt_5068e 15 = .ok (.ireturn, 1) := by decide +kernel
theorem dJ0_charAt_5068e_0 : decode cJ0_charAt_5068e 0 = .ok (.aload_n 0, 1) := gdJ0_charAt_5068e_0.1
theorem dJ0_charAt_5068e_1 : decode cJ0_charAt_5068e 1 = .ok (.invokevirtual 492, 3) := gdJ0_charAt_5068e_0.2.1
theorem dJ0_charAt_5068e_4 : decode cJ0_charAt_5068e 4 = .ok (.ifCond .eq 12, 3) := gdJ0_charAt_5068e_0.2.2.1
theorem dJ0_charAt_5068e_7 : decode cJ0_charAt_5068e 7 = .ok (.aload_n 0, 1) := gdJ0_charAt_5068e_0.2.2.2.1
theorem dJ0_charAt_5068e_8 : decode cJ0_charAt_5068e 8 = .ok (.getfield 9, 3) := gdJ0_charAt_5068e_0.2.2.2.2.1
theorem dJ0_charAt_5068e_11 : decode cJ0_charAt_5068e 11 = .ok (.iload_n 1, 1) := gdJ0_charAt_5068e_0.2.2.2.2.2.1
theorem dJ0_charAt_5068e_12 : decode cJ0_charAt_5068e 12 = .ok (.invokestatic 495, 3) := gdJ0_charAt_5068e_0.2.2.2.2.2.2.1
theorem dJ0_charAt_5068e_15 : decode cJ0_charAt_5068e 15 = .ok (.ireturn, 1) := gdJ0_charAt_5068e_0.2.2.2.2.2.2.2
set_option maxRecDepth 20000 in
theorem gdJ0_checkIndex_df160_0 : decode cJ0_checkIndex_df160 0 = .ok (.iload_n 0, 1) ∧ decode cJ0_checkIndex_df160 1 = .ok (.iload_n 1, 1) ∧ decode cJ0_checkIndex_df160 2 = .ok (.getstatic 1053, 3) ∧ decode cJ0_checkIndex_df160 5 = .ok (.invokestatic 1059, 3) ∧ decode cJ0_checkIndex_df160 8 = .ok (.pop, 1) ∧ decode cJ0_checkIndex_df160 9 = .ok (.return_, 1) := by decide +kernel
theorem dJ0_checkIndex_df160_0 : decode cJ0_checkIndex_df160 0 = .ok (.iload_n 0, 1) := gdJ0_checkIndex_df160_0.1
theorem dJ0_checkIndex_df160_1 : decode cJ0_checkIndex_df160 1 = .ok (.iload_n 1, 1) := gdJ0_checkIndex_df160_0.2.1
theorem dJ0_checkIndex_df160_2 : decode cJ0_checkIndex_df160 2 = .ok (.getstatic 1053, 3) := gdJ0_checkIndex_df160_0.2.2.1
theorem dJ0_checkIndex_df160_5 : decode cJ0_checkIndex_df160 5 = .ok (.invokestatic 1059, 3) := gdJ0_checkIndex_df160_0.2.2.2.1
theorem dJ0_checkIndex_df160_8 : decode cJ0_checkIndex_df160 8 = .ok (.pop, 1) := gdJ0_checkIndex_df160_0.2.2.2.2.1
theorem dJ0_checkIndex_df160_9 : decode cJ0_checkIndex_df160 9 = .ok (.return_, 1) := gdJ0_checkIndex_df160_0.2.2.2.2.2
set_option maxRecDepth 20000 in
theorem gdJ0_coder_7d493_0 : decode cJ0_coder_7d493 0 = .ok (.getstatic 38, 3) ∧ decode cJ0_coder_7d493 3 = .ok (.ifCond .eq 10, 3) ∧ decode cJ0_coder_7d493 6 = .ok (.aload_n 0, 1) ∧ decode cJ0_coder_7d493 7 = .ok (.getfield 15, 3) ∧ decode cJ0_coder_7d493 10 = .ok (.goto 4, 3) ∧ decode cJ0_coder_7d493 14 = .ok (.ireturn, 1) := by decide +kernel
theorem dJ0_coder_7d493_0 : decode cJ0_coder_7d493 0 = .ok (.getstatic 38, 3) := gdJ0_coder_7d493_0.1
theorem dJ0_coder_7d493_3 : decode cJ0_coder_7d493 3 = .ok (.ifCond .eq 10, 3) := gdJ0_coder_7d493_0.2.1
theorem dJ0_coder_7d493_6 : decode cJ0_coder_7d493 6 = .ok (.aload_n 0, 1) := gdJ0_coder_7d493_0.2.2.1
theorem dJ0_coder_7d493_7 : decode cJ0_coder_7d493 7 = .ok (.getfield 15, 3) := gdJ0_coder_7d493_0.2.2.2.1
theorem dJ0_coder_7d493_10 : decode cJ0_coder_7d493 10 = .ok (.goto 4, 3) := gdJ0_coder_7d493_0.2.2.2.2.1
theorem dJ0_coder_7d493_14 : decode cJ0_coder_7d493 14 = .ok (.ireturn, 1) := gdJ0_coder_7d493_0.2.2.2.2.2
set_option maxRecDepth 20000 in
theorem gdJ0_isLatin1_aae02_0 : decode cJ0_isLatin1_aae02 0 = .ok (.getstatic 38, 3) ∧ decode cJ0_isLatin1_aae02 3 = .ok (.ifCond .eq 14, 3) ∧ decode cJ0_isLatin1_aae02 6 = .ok (.aload_n 0, 1) ∧ decode cJ0_isLatin1_aae02 7 = .ok (.getfield 15, 3) ∧ decode cJ0_isLatin1_aae02 10 = .ok (.ifCond .ne 7, 3) ∧ decode cJ0_isLatin1_aae02 13 = .ok (.iconst 1, 1) ∧ decode cJ0_isLatin1_aae02 14 = .ok (.goto 4, 3) ∧ decode cJ0_isLatin1_aae02 18 = .ok (.ireturn, 1) := by decide +kernel
theorem dJ0_isLatin1_aae02_0 : decode cJ0_isLatin1_aae02 0 = .ok (.getstatic 38, 3) := gdJ0_isLatin1_aae02_0.1
theorem dJ0_isLatin1_aae02_3 : decode cJ0_isLatin1_aae02 3 = .ok (.ifCond .eq 14, 3) := gdJ0_isLatin1_aae02_0.2.1
theorem dJ0_isLatin1_aae02_6 : decode cJ0_isLatin1_aae02 6 = .ok (.aload_n 0, 1) := gdJ0_isLatin1_aae02_0.2.2.1
theorem dJ0_isLatin1_aae02_7 : decode cJ0_isLatin1_aae02 7 = .ok (.getfield 15, 3) := gdJ0_isLatin1_aae02_0.2.2.2.1
theorem dJ0_isLatin1_aae02_10 : decode cJ0_isLatin1_aae02 10 = .ok (.ifCond .ne 7, 3) := gdJ0_isLatin1_aae02_0.2.2.2.2.1
theorem dJ0_isLatin1_aae02_13 : decode cJ0_isLatin1_aae02 13 = .ok (.iconst 1, 1) := gdJ0_isLatin1_aae02_0.2.2.2.2.2.1
theorem dJ0_isLatin1_aae02_14 : decode cJ0_isLatin1_aae02 14 = .ok (.goto 4, 3) := gdJ0_isLatin1_aae02_0.2.2.2.2.2.2.1
theorem dJ0_isLatin1_aae02_18 : decode cJ0_isLatin1_aae02 18 = .ok (.ireturn, 1) := gdJ0_isLatin1_aae02_0.2.2.2.2.2.2.2
set_option maxRecDepth 20000 in
theorem gdJ0_length_8abf5_0 : decode cJ0_length_8abf5 0 = .ok (.aload_n 0, 1) ∧ decode cJ0_length_8abf5 1 = .ok (.getfield 9, 3) ∧ decode cJ0_length_8abf5 4 = .ok (.arraylength, 1) ∧ decode cJ0_length_8abf5 5 = .ok (.aload_n 0, 1) ∧ decode cJ0_length_8abf5 6 = .ok (.invokevirtual 335, 3) ∧ decode cJ0_length_8abf5 9 = .ok (.ishr, 1) ∧ decode cJ0_length_8abf5 10 = .ok (.ireturn, 1) := by decide +kernel
theorem dJ0_length_8abf5_0 : decode cJ0_length_8abf5 0 = .ok (.aload_n 0, 1) := gdJ0_length_8abf5_0.1
theorem dJ0_length_8abf5_1 : decode cJ0_length_8abf5 1 = .ok (.getfield 9, 3) := gdJ0_length_8abf5_0.2.1
theorem dJ0_length_8abf5_4 : decode cJ0_length_8abf5 4 = .ok (.arraylength, 1) := gdJ0_length_8abf5_0.2.2.1
theorem dJ0_length_8abf5_5 : decode cJ0_length_8abf5 5 = .ok (.aload_n 0, 1) := gdJ0_length_8abf5_0.2.2.2.1
theorem dJ0_length_8abf5_6 : decode cJ0_length_8abf5 6 = .ok (.invokevirtual 335, 3) := gdJ0_length_8abf5_0.2.2.2.2.1
theorem dJ0_length_8abf5_9 : decode cJ0_length_8abf5 9 = .ok (.ishr, 1) := gdJ0_length_8abf5_0.2.2.2.2.2.1
theorem dJ0_length_8abf5_10 : decode cJ0_length_8abf5 10 = .ok (.ireturn, 1) := gdJ0_length_8abf5_0.2.2.2.2.2.2
set_option maxRecDepth 20000 in
theorem gdJ1_charAt_3b067_0 : decode cJ1_charAt_3b067 0 = .ok (.iload_n 1, 1) ∧ decode cJ1_charAt_3b067 1 = .ok (.aload_n 0, 1) ∧ decode cJ1_charAt_3b067 2 = .ok (.arraylength, 1) ∧ decode cJ1_charAt_3b067 3 = .ok (.invokestatic 9, 3) ∧ decode cJ1_charAt_3b067 6 = .ok (.aload_n 0, 1) ∧ decode cJ1_charAt_3b067 7 = .ok (.iload_n 1, 1) ∧ decode cJ1_charAt_3b067 8 = .ok (.baload, 1) ∧ decode cJ1_charAt_3b067 9 = .ok (.sipush 255, 3) := by decide +kernel
theorem dJ1_charAt_3b067_0 : decode cJ1_charAt_3b067 0 = .ok (.iload_n 1, 1) := gdJ1_charAt_3b067_0.1
theorem dJ1_charAt_3b067_1 : decode cJ1_charAt_3b067 1 = .ok (.aload_n 0, 1) := gdJ1_charAt_3b067_0.2.1
theorem dJ1_charAt_3b067_2 : decode cJ1_charAt_3b067 2 = .ok (.arraylength, 1) := gdJ1_charAt_3b067_0.2.2.1
theorem dJ1_charAt_3b067_3 : decode cJ1_charAt_3b067 3 = .ok (.invokestatic 9, 3) := gdJ1_charAt_3b067_0.2.2.2.1
theorem dJ1_charAt_3b067_6 : decode cJ1_charAt_3b067 6 = .ok (.aload_n 0, 1) := gdJ1_charAt_3b067_0.2.2.2.2.1
theorem dJ1_charAt_3b067_7 : decode cJ1_charAt_3b067 7 = .ok (.iload_n 1, 1) := gdJ1_charAt_3b067_0.2.2.2.2.2.1
theorem dJ1_charAt_3b067_8 : decode cJ1_charAt_3b067 8 = .ok (.baload, 1) := gdJ1_charAt_3b067_0.2.2.2.2.2.2.1
theorem dJ1_charAt_3b067_9 : decode cJ1_charAt_3b067 9 = .ok (.sipush 255, 3) := gdJ1_charAt_3b067_0.2.2.2.2.2.2.2
set_option maxRecDepth 20000 in
theorem gdJ1_charAt_3b067_12 : decode cJ1_charAt_3b067 12 = .ok (.iand, 1) ∧ decode cJ1_charAt_3b067 13 = .ok (.i2c, 1) ∧ decode cJ1_charAt_3b067 14 = .ok (.ireturn, 1) := by decide +kernel
theorem dJ1_charAt_3b067_12 : decode cJ1_charAt_3b067 12 = .ok (.iand, 1) := gdJ1_charAt_3b067_12.1
theorem dJ1_charAt_3b067_13 : decode cJ1_charAt_3b067 13 = .ok (.i2c, 1) := gdJ1_charAt_3b067_12.2.1
theorem dJ1_charAt_3b067_14 : decode cJ1_charAt_3b067 14 = .ok (.ireturn, 1) := gdJ1_charAt_3b067_12.2.2
set_option maxRecDepth 20000 in
theorem gdJ3_checkIndex_8e157_0 : decode cJ3_checkIndex_8e157 0 = .ok (.iload_n 0, 1) ∧ decode cJ3_checkIndex_8e157 1 = .ok (.ifCond .lt 8, 3) ∧ decode cJ3_checkIndex_8e157 4 = .ok (.iload_n 0, 1) ∧ decode cJ3_checkIndex_8e157 5 = .ok (.iload_n 1, 1) ∧ decode cJ3_checkIndex_8e157 6 = .ok (.if_icmp .lt 10, 3) ∧ decode cJ3_checkIndex_8e157 16 = .ok (.iload_n 0, 1) ∧ decode cJ3_checkIndex_8e157 17 = .ok (.ireturn, 1) := by decide +kernel
theorem dJ3_checkIndex_8e157_0 : decode cJ3_checkIndex_8e157 0 = .ok (.iload_n 0, 1) := gdJ3_checkIndex_8e157_0.1
theorem dJ3_checkIndex_8e157_1 : decode cJ3_checkIndex_8e157 1 = .ok (.ifCond .lt 8, 3) := gdJ3_checkIndex_8e157_0.2.1
theorem dJ3_checkIndex_8e157_4 : decode cJ3_checkIndex_8e157 4 = .ok (.iload_n 0, 1) := gdJ3_checkIndex_8e157_0.2.2.1
theorem dJ3_checkIndex_8e157_5 : decode cJ3_checkIndex_8e157 5 = .ok (.iload_n 1, 1) := gdJ3_checkIndex_8e157_0.2.2.2.1
theorem dJ3_checkIndex_8e157_6 : decode cJ3_checkIndex_8e157 6 = .ok (.if_icmp .lt 10, 3) := gdJ3_checkIndex_8e157_0.2.2.2.2.1
theorem dJ3_checkIndex_8e157_16 : decode cJ3_checkIndex_8e157 16 = .ok (.iload_n 0, 1) := gdJ3_checkIndex_8e157_0.2.2.2.2.2.1
theorem dJ3_checkIndex_8e157_17 : decode cJ3_checkIndex_8e157 17 = .ok (.ireturn, 1) := gdJ3_checkIndex_8e157_0.2.2.2.2.2.2
set_option maxRecDepth 20000 in
theorem gdX5_isWord_0 : decode cX5_isWord 0 = .ok (.aload_n 0, 1) ∧ decode cX5_isWord 1 = .ok (.getfield 17, 3) ∧ decode cX5_isWord 4 = .ok (.iconst 1, 1) ∧ decode cX5_isWord 5 = .ok (.if_icmp .ne 14, 3) ∧ decode cX5_isWord 8 = .ok (.aload_n 0, 1) ∧ decode cX5_isWord 9 = .ok (.invokevirtual 39, 3) ∧ decode cX5_isWord 12 = .ok (.aload_n 1, 1) ∧ decode cX5_isWord 13 = .ok (.invokevirtual 43, 3) := by decide +kernel
theorem dX5_isWord_0 : decode cX5_isWord 0 = .ok (.aload_n 0, 1) := gdX5_isWord_0.1
theorem dX5_isWord_1 : decode cX5_isWord 1 = .ok (.getfield 17, 3) := gdX5_isWord_0.2.1
theorem dX5_isWord_4 : decode cX5_isWord 4 = .ok (.iconst 1, 1) := gdX5_isWord_0.2.2.1
theorem dX5_isWord_5 : decode cX5_isWord 5 = .ok (.if_icmp .ne 14, 3) := gdX5_isWord_0.2.2.2.1
theorem dX5_isWord_8 : decode cX5_isWord 8 = .ok (.aload_n 0, 1) := gdX5_isWord_0.2.2.2.2.1
theorem dX5_isWord_9 : decode cX5_isWord 9 = .ok (.invokevirtual 39, 3) := gdX5_isWord_0.2.2.2.2.2.1
theorem dX5_isWord_12 : decode cX5_isWord 12 = .ok (.aload_n 1, 1) := gdX5_isWord_0.2.2.2.2.2.2.1
theorem dX5_isWord_13 : decode cX5_isWord 13 = .ok (.invokevirtual 43, 3) := gdX5_isWord_0.2.2.2.2.2.2.2
set_option maxRecDepth 20000 in
theorem gdX5_isWord_16 : decode cX5_isWord 16 = .ok (.if_icmp .eq 5, 3) ∧ decode cX5_isWord 19 = .ok (.iconst 0, 1) ∧ decode cX5_isWord 20 = .ok (.ireturn, 1) ∧ decode cX5_isWord 21 = .ok (.iconst 0, 1) ∧ decode cX5_isWord 22 = .ok (.istore_n 2, 1) ∧ decode cX5_isWord 23 = .ok (.iload_n 2, 1) ∧ decode cX5_isWord 24 = .ok (.aload_n 1, 1) ∧ decode cX5_isWord 25 = .ok (.invokevirtual 43, 3) := by decide +kernel
theorem dX5_isWord_16 : decode cX5_isWord 16 = .ok (.if_icmp .eq 5, 3) := gdX5_isWord_16.1
theorem dX5_isWord_19 : decode cX5_isWord 19 = .ok (.iconst 0, 1) := gdX5_isWord_16.2.1
theorem dX5_isWord_20 : decode cX5_isWord 20 = .ok (.ireturn, 1) := gdX5_isWord_16.2.2.1
theorem dX5_isWord_21 : decode cX5_isWord 21 = .ok (.iconst 0, 1) := gdX5_isWord_16.2.2.2.1
theorem dX5_isWord_22 : decode cX5_isWord 22 = .ok (.istore_n 2, 1) := gdX5_isWord_16.2.2.2.2.1
theorem dX5_isWord_23 : decode cX5_isWord 23 = .ok (.iload_n 2, 1) := gdX5_isWord_16.2.2.2.2.2.1
theorem dX5_isWord_24 : decode cX5_isWord 24 = .ok (.aload_n 1, 1) := gdX5_isWord_16.2.2.2.2.2.2.1
theorem dX5_isWord_25 : decode cX5_isWord 25 = .ok (.invokevirtual 43, 3) := gdX5_isWord_16.2.2.2.2.2.2.2
set_option maxRecDepth 20000 in
theorem gdX5_isWord_28 : decode cX5_isWord 28 = .ok (.if_icmp .ge 30, 3) ∧ decode cX5_isWord 31 = .ok (.aload_n 0, 1) ∧ decode cX5_isWord 32 = .ok (.getfield 9, 3) ∧ decode cX5_isWord 35 = .ok (.aload_n 0, 1) ∧ decode cX5_isWord 36 = .ok (.getfield 20, 3) ∧ decode cX5_isWord 39 = .ok (.iload_n 2, 1) ∧ decode cX5_isWord 40 = .ok (.iadd, 1) ∧ decode cX5_isWord 41 = .ok (.iaload, 1) := by decide +kernel
theorem dX5_isWord_28 : decode cX5_isWord 28 = .ok (.if_icmp .ge 30, 3) := gdX5_isWord_28.1
theorem dX5_isWord_31 : decode cX5_isWord 31 = .ok (.aload_n 0, 1) := gdX5_isWord_28.2.1
theorem dX5_isWord_32 : decode cX5_isWord 32 = .ok (.getfield 9, 3) := gdX5_isWord_28.2.2.1
theorem dX5_isWord_35 : decode cX5_isWord 35 = .ok (.aload_n 0, 1) := gdX5_isWord_28.2.2.2.1
theorem dX5_isWord_36 : decode cX5_isWord 36 = .ok (.getfield 20, 3) := gdX5_isWord_28.2.2.2.2.1
theorem dX5_isWord_39 : decode cX5_isWord 39 = .ok (.iload_n 2, 1) := gdX5_isWord_28.2.2.2.2.2.1
theorem dX5_isWord_40 : decode cX5_isWord 40 = .ok (.iadd, 1) := gdX5_isWord_28.2.2.2.2.2.2.1
theorem dX5_isWord_41 : decode cX5_isWord 41 = .ok (.iaload, 1) := gdX5_isWord_28.2.2.2.2.2.2.2
set_option maxRecDepth 20000 in
theorem gdX5_isWord_42 : decode cX5_isWord 42 = .ok (.aload_n 1, 1) ∧ decode cX5_isWord 43 = .ok (.iload_n 2, 1) ∧ decode cX5_isWord 44 = .ok (.invokevirtual 46, 3) ∧ decode cX5_isWord 47 = .ok (.if_icmp .eq 5, 3) ∧ decode cX5_isWord 50 = .ok (.iconst 0, 1) ∧ decode cX5_isWord 51 = .ok (.ireturn, 1) ∧ decode cX5_isWord 52 = .ok (.iinc 2 1, 3) ∧ decode cX5_isWord 55 = .ok (.goto (-32), 3) := by decide +kernel
theorem dX5_isWord_42 : decode cX5_isWord 42 = .ok (.aload_n 1, 1) := gdX5_isWord_42.1
theorem dX5_isWord_43 : decode cX5_isWord 43 = .ok (.iload_n 2, 1) := gdX5_isWord_42.2.1
theorem dX5_isWord_44 : decode cX5_isWord 44 = .ok (.invokevirtual 46, 3) := gdX5_isWord_42.2.2.1
theorem dX5_isWord_47 : decode cX5_isWord 47 = .ok (.if_icmp .eq 5, 3) := gdX5_isWord_42.2.2.2.1
theorem dX5_isWord_50 : decode cX5_isWord 50 = .ok (.iconst 0, 1) := gdX5_isWord_42.2.2.2.2.1
theorem dX5_isWord_51 : decode cX5_isWord 51 = .ok (.ireturn, 1) := gdX5_isWord_42.2.2.2.2.2.1
theorem dX5_isWord_52 : decode cX5_isWord 52 = .ok (.iinc 2 1, 3) := gdX5_isWord_42.2.2.2.2.2.2.1
theorem dX5_isWord_55 : decode cX5_isWord 55 = .ok (.goto (-32), 3) := gdX5_isWord_42.2.2.2.2.2.2.2
theorem dX5_isWord_58 : decode cX5_isWord 58 = .ok (.iconst 1, 1) := by decide +kernel
theorem dX5_isWord_59 : decode cX5_isWord 59 = .ok (.ireturn, 1) := by decide +kernel
theorem jX5_isWord_X5 : ∀ w ∈ u_ws RX5 TX5 6, w ∈ wsX5_isWord := fun w h => List.mem_cons_of_mem _ (List.mem_append_right _ h)
theorem hdS_J0_checkIndex_df160 : yJ0_checkIndex_df160.cls ≠ "java/lang/invoke/MethodHandle" ∧ yJ0_checkIndex_df160.cls ≠ "java/lang/invoke/VarHandle" ∧ (parseMethodDescriptor yJ0_checkIndex_df160.desc).map (fun d => d.parameters.length) = some 2 := by decide +kernel
theorem hdS_J1_charAt_3b067 : yJ1_charAt_3b067.cls ≠ "java/lang/invoke/MethodHandle" ∧ yJ1_charAt_3b067.cls ≠ "java/lang/invoke/VarHandle" ∧ (parseMethodDescriptor yJ1_charAt_3b067.desc).map (fun d => d.parameters.length) = some 2 := by decide +kernel
theorem hdS_J3_checkIndex_8e157 : yJ3_checkIndex_8e157.cls ≠ "java/lang/invoke/MethodHandle" ∧ yJ3_checkIndex_8e157.cls ≠ "java/lang/invoke/VarHandle" ∧ (parseMethodDescriptor yJ3_checkIndex_8e157.desc).map (fun d => d.parameters.length) = some 3 := by decide +kernel
theorem hdV_J0_charAt_5068e : yJ0_charAt_5068e.cls = RJ0 ∧ yJ0_charAt_5068e.cls ≠ "java/lang/invoke/MethodHandle" ∧ yJ0_charAt_5068e.cls ≠ "java/lang/invoke/VarHandle" ∧ (parseMethodDescriptor yJ0_charAt_5068e.desc).map (fun d => d.parameters.length) = some 1 := by decide +kernel
theorem hdV_J0_coder_7d493 : yJ0_coder_7d493.cls = RJ0 ∧ yJ0_coder_7d493.cls ≠ "java/lang/invoke/MethodHandle" ∧ yJ0_coder_7d493.cls ≠ "java/lang/invoke/VarHandle" ∧ (parseMethodDescriptor yJ0_coder_7d493.desc).map (fun d => d.parameters.length) = some 0 := by decide +kernel
theorem hdV_J0_isLatin1_aae02 : yJ0_isLatin1_aae02.cls = RJ0 ∧ yJ0_isLatin1_aae02.cls ≠ "java/lang/invoke/MethodHandle" ∧ yJ0_isLatin1_aae02.cls ≠ "java/lang/invoke/VarHandle" ∧ (parseMethodDescriptor yJ0_isLatin1_aae02.desc).map (fun d => d.parameters.length) = some 0 := by decide +kernel
theorem hdV_J0_length_8abf5 : yJ0_length_8abf5.cls = RJ0 ∧ yJ0_length_8abf5.cls ≠ "java/lang/invoke/MethodHandle" ∧ yJ0_length_8abf5.cls ≠ "java/lang/invoke/VarHandle" ∧ (parseMethodDescriptor yJ0_length_8abf5.desc).map (fun d => d.parameters.length) = some 0 := by decide +kernel
section BT
variable {p : Program} {l : Launch} {e : Env} {R : Room} {s : State} {m : MethodId} {args : Array Value} {below : List Frame} {meth : Method} {c : Code} {H : Heap} {locs : List Loc} {cells slots : Nat} {Q : State → Prop}
variable {D : va_G} {ty : List (ClassId × FieldType)} {sq : Nat → Nat} {ws wc wr : va_W} {cc : ByteArray} {nL : Nat} {Ts : List Cond} {own : String} {A : Nat → Prop} {pc : Nat} {ls : Array Slot} {rest st0 : List Value}
variable {y : MethodName} {wd wd' : List Cond} {fr lo mc ms n index maxL b : Nat} {bytes : ByteArray} {ret : Option FieldType} {As : List Value} {C : String} {host : String}
variable {Qc : Array Value → State → Outcome → State → Prop} {free : Addr → Prop}
theorem b_nret {post : Int32 → va_W → Prop} {v : Int32} {ty : FieldType} (hx : p.tables.exec = Jvm.exec) (hb : c.code = cc) (hr : meth.sig.returnType = some ty) (hk : meth.locks = false) (hn : narrow ty (.int v) = .int v) (hP : va_P D vwCl ws H) (hD : va_D A ws) (hS : va_S A s.heap H locs) (hpost : post v ws) (hdg : decode cc pc = .ok (.ireturn, 1)) :
    W p l e R s m args below meth c H locs cells slots (MQ below (va_Qi post (wD D A) A) args s cells slots A) (F0 m pc ls [.int v]) :=
  W.zret (v := v) (ty := ty) hx hb hr hn (fun t ht _ => ⟨⟨v, ws, rfl, hpost, by rw [ht]; exact hP, hD⟩, hS.F ht⟩) hS.2.2 hdg hk
/-- a call on a constant text -/
theorem b_runT {wi : Nat} (hwi : wi < 6) (hM : Met l y wd (rmW fr lo mc ms) (va_Pc (.ref (sq (10 + wi)) :: As) (pC D ty sq wc H.size)) Qc mc ms free) (S : CallFix p m c cc nL s args Ts own) (hG : GoodIn Ts (wsV own index "java/lang/String" y wd)) (hw : wd = Cond.code y bytes maxL ret :: wd') (hd : y.cls = "java/lang/String" ∧ y.cls ≠ "java/lang/invoke/MethodHandle" ∧ y.cls ≠ "java/lang/invoke/VarHandle" ∧ (parseMethodDescriptor y.desc).map (fun d => d.parameters.length) = some n) (hRm : fr + 1 ≤ R.frames ∧ 8 + (maxL + 11) + lo ≤ R.locals) (hf : cells + mc ≤ R.cells ∧ slots + ms ≤ R.slots)
    (hK : kW D ty sq s) (hT : sT sq A s s.heap) (hS : va_S A s.heap H locs) (hA : ∀ q, s.heap.size ≤ q → A q) (hP : va_P D vwCl ws H) (hD : va_D A ws) (isC : List Nat) (hC : isC.map (fun i => ws[i]?) = wc.map some) (hnC : va_nd isC = true)
    (hAs : As.length = n) (hls : ls.size = nL) (hst : st0 = As.reverse ++ .ref (sq (10 + wi)) :: rest) (hcat : (rest.map fun v => v.category).sum ≤ 8) (hdg : decode cc pc = .ok (.invokevirtual index, 3)) :
    va_Run p l e R s m args below meth c H locs cells slots mc ms (F0 m pc ls st0) rest (Qc (Value.ref (sq (10 + wi)) :: As).toArray) free :=
  va_runV (As := As) (rest := rest) S hM (cwV n S.2.2.2.2 hG hw rfl rfl hd hRm) ⟨b_blind, vk_recv (N := 6) (len := wordN) (byt := wordB) (adK := fun i => sq (10 + i)) (adV := fun i => sq (20 + i)) (i := wi) hT.2.2.2.2.2.2.2 hwi hS, b_pre hK hT hS hA hP hD isC hC hnC⟩ rfl hAs hls hst (lv_room hcat) hdg hf
end BT
/-- the letters of the words are bytes above 0 -/
theorem chW : ∀ k, k < 6 → ∀ b ∈ wordB.getD k [], ((b &&& 255).toUInt32 % 65536).toInt32 = b ∧ b &&& 255 = b := by decide +kernel
theorem chN {b : Int32} (h : b &&& 255 = b) : narrow .char (.int b) = .int b := by
  have h2 := sc_nar b
  rw [h] at h2
  exact h2
theorem chG {k : Nat} {i x : Int32} {n : Nat} (hk : k < 6) (hn : (wordB.getD k []).length = n) (h0 : 0 ≤ i.toInt) (h1 : i.toInt < n) (e : x = (wordB.getD k []).getD i.toNatClampNeg 0) : ((x &&& 255).toUInt32 % 65536).toInt32 = x ∧ x &&& 255 = x := by
  have h3 : i.toNatClampNeg = i.toInt.toNat := rfl
  have h2 : i.toNatClampNeg < (wordB.getD k []).length := by omega
  rw [List.getD_eq_getElem?_getD, List.getElem?_eq_getElem h2] at e
  rw [e]
  exact chW k hk _ (List.getElem_mem h2)
set_option maxHeartbeats 4000000 in
set_option maxRecDepth 100000 in
theorem s_J0_coder_7d493_0 (l : Launch) (D : va_G) (cI cZ cC cS : ClassId) (sq : Nat → Nat) (sz : Nat)  : mI l yJ0_coder_7d493 wsJ0_coder_7d493 0 0 D (tyW cI cZ cC cS) sq [] sz [.ref (sq 10)] (fun r w => (r = 0 ∧ w = [])) := by
  refine b_metI (cc := cJ0_coder_7d493) (maxL := 1) (ret := (some .byte)) (by decide) rfl (Nat.le_of_ble_eq_true rfl) ?_
  intro p e s m below meth c ls A H X hsz hP hK hT hD hA hS hl
  have S : CallFix p m c cJ0_coder_7d493 1 s ([.ref (sq 10)] : List Value).toArray wsJ0_coder_7d493 RJ0 := X.1
  have hl : lv_has ls 1 [(0, .ref (sq 10))] := hl
  refine va_gets (C := "java/lang/String") S.1 S.2.1 hT.2.2.2.2.2.1 hS S.2.2.2.1 (S.2.2.2.2 (.fieldLink RJ0 38 "java/lang/String" "COMPACT_STRINGS" "Z") (by decide +kernel)) (fun _ h => h) dJ0_coder_7d493_0 ?_
  refine lv_if_eq (tgt := 13) S.1 S.2.1 dJ0_coder_7d493_3 (by decide) (fun c_1 => absurd c_1 (by decide)) (fun c_1 => ?_)
  refine lv_aload_n S.1 S.2.1 dJ0_coder_7d493_6 rfl (lv_at hl 0 rfl) ?_
  refine vk_getf S.1 S.2.1 (show va_OF "java/lang/String" "coder" "B" (.int 0) (sq 10) A s s.heap from (hT.2.2.2.2.2.2.2.1 0 (by decide)).2.1) hS S.2.2.2.1 (S.2.2.2.2 (.fieldLink RJ0 15 "java/lang/String" "coder" "B") (by decide +kernel)) (fun _ h => h) dJ0_coder_7d493_7 ?_
  refine lv_goto (tgt := 14) S.1 S.2.1 dJ0_coder_7d493_10 (by decide) ?_
  exact b_nret (ty := .byte) S.1 S.2.1 X.2.1 X.2.2.1 rfl hP hD hS ⟨rfl, rfl⟩ dJ0_coder_7d493_14
set_option maxHeartbeats 4000000 in
set_option maxRecDepth 100000 in
theorem s_J0_length_8abf5_0 (l : Launch) (D : va_G) (cI cZ cC cS : ClassId) (sq : Nat → Nat) (sz : Nat)  : mI l yJ0_length_8abf5 wsJ0_length_8abf5 1 40 D (tyW cI cZ cC cS) sq [] sz [.ref (sq 10)] (fun r w => (r = 3 ∧ w = [])) := by
  refine b_metI (cc := cJ0_length_8abf5) (maxL := 1) (ret := (some .int)) (by decide) rfl (Nat.le_of_ble_eq_true rfl) ?_
  intro p e s m below meth c ls A H X hsz hP hK hT hD hA hS hl
  have S : CallFix p m c cJ0_length_8abf5 1 s ([.ref (sq 10)] : List Value).toArray wsJ0_length_8abf5 RJ0 := X.1
  have hl : lv_has ls 1 [(0, .ref (sq 10))] := hl
  refine lv_aload_n S.1 S.2.1 dJ0_length_8abf5_0 rfl (lv_at hl 0 rfl) ?_
  refine vk_getf S.1 S.2.1 (show va_OF "java/lang/String" "value" "[B" (.ref (sq 20)) (sq 10) A s s.heap from (hT.2.2.2.2.2.2.2.1 0 (by decide)).2.2.1) hS S.2.2.2.1 (S.2.2.2.2 (.fieldLink RJ0 9 "java/lang/String" "value" "[B") (by decide +kernel)) (fun _ h => h) dJ0_length_8abf5_1 ?_
  refine va_tlen (v := 3) S.1 S.2.1 (show va_T .byte (sq 20) 3 (fun j => .int ((wordB.getD 0 []).getD j 0)) A s s.heap from (hT.2.2.2.2.2.2.2.1 0 (by decide)).2.2.2) hS rfl dJ0_length_8abf5_4 ?_
  refine lv_aload_n S.1 S.2.1 dJ0_length_8abf5_5 rfl (lv_at hl 0 rfl) ?_
  refine b_ai (wr := []) (b_runT (wi := 0) (As := []) (by decide) (s_J0_coder_7d493_0 l D cI cZ cC cS sq H.size ) S gJ0_length_8abf5_J0_coder_7d493 rfl hdV_J0_coder_7d493 ⟨Nat.le_of_ble_eq_true rfl, Nat.le_of_ble_eq_true rfl⟩ ⟨Nat.le_of_ble_eq_true rfl, Nat.le_of_ble_eq_true rfl⟩ hK hT hS hA hP hD [] rfl (by decide) rfl hl.1 rfl (Nat.le_of_ble_eq_true rfl) dJ0_length_8abf5_6) hP hD hS hA [] [] rfl rfl (by decide) (by decide) (fun r_1 w_2 H locs hw_3 hP hD hS => ?_)
  obtain ⟨rfl, rfl⟩ := hw_3
  refine lv_ishr S.1 S.2.1 dJ0_length_8abf5_9 ?_
  refine lv_topi (fun x_4 ex_4 => ?_)
  have ex_4 : x_4 = 3 := by rw [ex_4]; decide
  subst ex_4
  exact b_iret S.1 S.2.1 X.2.1 X.2.2.1 hP hD hS ⟨rfl, rfl⟩ dJ0_length_8abf5_10
set_option maxHeartbeats 4000000 in
set_option maxRecDepth 100000 in
theorem s_J0_isLatin1_aae02_0 (l : Launch) (D : va_G) (cI cZ cC cS : ClassId) (sq : Nat → Nat) (sz : Nat)  : mI l yJ0_isLatin1_aae02 wsJ0_isLatin1_aae02 0 0 D (tyW cI cZ cC cS) sq [] sz [.ref (sq 10)] (fun r w => (r = 1 ∧ w = [])) := by
  refine b_metI (cc := cJ0_isLatin1_aae02) (maxL := 1) (ret := (some .boolean)) (by decide) rfl (Nat.le_of_ble_eq_true rfl) ?_
  intro p e s m below meth c ls A H X hsz hP hK hT hD hA hS hl
  have S : CallFix p m c cJ0_isLatin1_aae02 1 s ([.ref (sq 10)] : List Value).toArray wsJ0_isLatin1_aae02 RJ0 := X.1
  have hl : lv_has ls 1 [(0, .ref (sq 10))] := hl
  refine va_gets (C := "java/lang/String") S.1 S.2.1 hT.2.2.2.2.2.1 hS S.2.2.2.1 (S.2.2.2.2 (.fieldLink RJ0 38 "java/lang/String" "COMPACT_STRINGS" "Z") (by decide +kernel)) (fun _ h => h) dJ0_isLatin1_aae02_0 ?_
  refine lv_if_eq (tgt := 17) S.1 S.2.1 dJ0_isLatin1_aae02_3 (by decide) (fun c_1 => absurd c_1 (by decide)) (fun c_1 => ?_)
  refine lv_aload_n S.1 S.2.1 dJ0_isLatin1_aae02_6 rfl (lv_at hl 0 rfl) ?_
  refine vk_getf S.1 S.2.1 (show va_OF "java/lang/String" "coder" "B" (.int 0) (sq 10) A s s.heap from (hT.2.2.2.2.2.2.2.1 0 (by decide)).2.1) hS S.2.2.2.1 (S.2.2.2.2 (.fieldLink RJ0 15 "java/lang/String" "coder" "B") (by decide +kernel)) (fun _ h => h) dJ0_isLatin1_aae02_7 ?_
  refine lv_if_ne (tgt := 17) S.1 S.2.1 dJ0_isLatin1_aae02_10 (by decide) (fun c_2 => absurd c_2 (by decide)) (fun c_2 => ?_)
  refine lv_iconst (v := (1)) S.1 S.2.1 dJ0_isLatin1_aae02_13 (by decide) ?_
  refine lv_goto (tgt := 18) S.1 S.2.1 dJ0_isLatin1_aae02_14 (by decide) ?_
  exact b_zret S.1 S.2.1 X.2.1 X.2.2.1 rfl hP hD hS ⟨rfl, rfl⟩ dJ0_isLatin1_aae02_18
set_option maxHeartbeats 4000000 in
set_option maxRecDepth 100000 in
theorem s_J3_checkIndex_8e157 (l : Launch) (D : va_G) (cI cZ cC cS : ClassId) (sq : Nat → Nat) (sz : Nat) (i : Int32) (mm : Int32) (fo : Nat) (hi : 0 ≤ i.toInt ∧ i.toInt < mm.toInt) : mI l yJ3_checkIndex_8e157 wsJ3_checkIndex_8e157 0 0 D (tyW cI cZ cC cS) sq [] sz [.int i, .int mm, .ref fo] (fun r w => (w = [])) := by
  refine b_metI (cc := cJ3_checkIndex_8e157) (maxL := 3) (ret := (some .int)) (by decide) rfl (Nat.le_of_ble_eq_true rfl) ?_
  intro p e s m below meth c ls A H X hsz hP hK hT hD hA hS hl
  have S : CallFix p m c cJ3_checkIndex_8e157 3 s ([.int i, .int mm, .ref fo] : List Value).toArray wsJ3_checkIndex_8e157 RJ3 := X.1
  have hl : lv_has ls 3 [(0, .int i), (1, .int mm), (2, .ref fo)] := hl
  refine lv_iload_n S.1 S.2.1 dJ3_checkIndex_8e157_0 rfl (lv_at hl 0 rfl) ?_
  refine lv_if_lt (tgt := 9) S.1 S.2.1 dJ3_checkIndex_8e157_1 (by decide) (fun c_1 => by exfalso; rw [lt2 (a := i) (b := 0) (A := i.toInt) (B := 0) rfl rfl] at c_1; omega) (fun c_1 => ?_)
  rw [lt2 (a := i) (b := 0) (A := i.toInt) (B := 0) rfl rfl] at c_1
  refine lv_iload_n S.1 S.2.1 dJ3_checkIndex_8e157_4 rfl (lv_at hl 0 rfl) ?_
  refine lv_iload_n S.1 S.2.1 dJ3_checkIndex_8e157_5 rfl (lv_at hl 1 rfl) ?_
  refine lv_icmp_lt (tgt := 16) S.1 S.2.1 dJ3_checkIndex_8e157_6 (by decide) (fun c_2 => ?_) (fun c_2 => by exfalso; rw [lt2 (a := i) (b := mm) (A := i.toInt) (B := mm.toInt) rfl rfl] at c_2; omega)
  rw [lt2 (a := i) (b := mm) (A := i.toInt) (B := mm.toInt) rfl rfl] at c_2
  refine lv_iload_n S.1 S.2.1 dJ3_checkIndex_8e157_16 rfl (lv_at hl 0 rfl) ?_
  exact b_iret S.1 S.2.1 X.2.1 X.2.2.1 hP hD hS rfl dJ3_checkIndex_8e157_17
set_option maxHeartbeats 4000000 in
set_option maxRecDepth 100000 in
theorem s_J3_checkIndex_8e157_n (l : Launch) (D : va_G) (cI cZ cC cS : ClassId) (sq : Nat → Nat) (sz : Nat) (i : Int32) (mm : Int32) (hi : 0 ≤ i.toInt ∧ i.toInt < mm.toInt) : mI l yJ3_checkIndex_8e157 wsJ3_checkIndex_8e157 0 0 D (tyW cI cZ cC cS) sq [] sz [.int i, .int mm, .null] (fun r w => (w = [])) := by
  refine b_metI (cc := cJ3_checkIndex_8e157) (maxL := 3) (ret := (some .int)) (by decide) rfl (Nat.le_of_ble_eq_true rfl) ?_
  intro p e s m below meth c ls A H X hsz hP hK hT hD hA hS hl
  have S : CallFix p m c cJ3_checkIndex_8e157 3 s ([.int i, .int mm, .null] : List Value).toArray wsJ3_checkIndex_8e157 RJ3 := X.1
  have hl : lv_has ls 3 [(0, .int i), (1, .int mm), (2, .null)] := hl
  refine lv_iload_n S.1 S.2.1 dJ3_checkIndex_8e157_0 rfl (lv_at hl 0 rfl) ?_
  refine lv_if_lt (tgt := 9) S.1 S.2.1 dJ3_checkIndex_8e157_1 (by decide) (fun c_1 => by exfalso; rw [lt2 (a := i) (b := 0) (A := i.toInt) (B := 0) rfl rfl] at c_1; omega) (fun c_1 => ?_)
  rw [lt2 (a := i) (b := 0) (A := i.toInt) (B := 0) rfl rfl] at c_1
  refine lv_iload_n S.1 S.2.1 dJ3_checkIndex_8e157_4 rfl (lv_at hl 0 rfl) ?_
  refine lv_iload_n S.1 S.2.1 dJ3_checkIndex_8e157_5 rfl (lv_at hl 1 rfl) ?_
  refine lv_icmp_lt (tgt := 16) S.1 S.2.1 dJ3_checkIndex_8e157_6 (by decide) (fun c_2 => ?_) (fun c_2 => by exfalso; rw [lt2 (a := i) (b := mm) (A := i.toInt) (B := mm.toInt) rfl rfl] at c_2; omega)
  rw [lt2 (a := i) (b := mm) (A := i.toInt) (B := mm.toInt) rfl rfl] at c_2
  refine lv_iload_n S.1 S.2.1 dJ3_checkIndex_8e157_16 rfl (lv_at hl 0 rfl) ?_
  exact b_iret S.1 S.2.1 X.2.1 X.2.2.1 hP hD hS rfl dJ3_checkIndex_8e157_17
set_option maxHeartbeats 4000000 in
set_option maxRecDepth 100000 in
theorem s_J0_checkIndex_df160 (l : Launch) (D : va_G) (cI cZ cC cS : ClassId) (sq : Nat → Nat) (sz : Nat) (i : Int32) (mm : Int32) (hi : 0 ≤ i.toInt ∧ i.toInt < mm.toInt) : mV l yJ0_checkIndex_df160 wsJ0_checkIndex_df160 1 40 0 0 D (tyW cI cZ cC cS) sq [] sz [.int i, .int mm] (fun w => (w = [])) := by
  refine b_metV (cc := cJ0_checkIndex_df160) (maxL := 2) (ret := none) (by decide) rfl (Nat.le_of_ble_eq_true rfl) ?_
  intro p e s m below meth c ls A H X hsz hP hK hT hD hA hS hl
  have S : CallFix p m c cJ0_checkIndex_df160 2 s ([.int i, .int mm] : List Value).toArray wsJ0_checkIndex_df160 RJ0 := X.1
  have hl : lv_has ls 2 [(0, .int i), (1, .int mm)] := hl
  refine lv_iload_n S.1 S.2.1 dJ0_checkIndex_df160_0 rfl (lv_at hl 0 rfl) ?_
  refine lv_iload_n S.1 S.2.1 dJ0_checkIndex_df160_1 rfl (lv_at hl 1 rfl) ?_
  rcases hT.2.2.2.2.2.2.1 with hz | ⟨tz_, hz⟩
  · refine va_gets (C := "jdk/internal/util/Preconditions") S.1 S.2.1 hz hS S.2.2.2.1 (S.2.2.2.2 (.fieldLink RJ0 1053 "jdk/internal/util/Preconditions" "SIOOBE_FORMATTER" "Ljava/util/function/BiFunction;") (by decide +kernel)) (fun _ h => h) dJ0_checkIndex_df160_2 ?_
    refine b_ai (wr := []) (b_runS (As := [.int i, .int mm, .null]) (s_J3_checkIndex_8e157_n l D cI cZ cC cS sq H.size i mm (by first | with_reducible assumption | decide | (and_intros <;> first | with_reducible assumption | (intros; refine Int.le_antisymm ?_ ?_ <;> omega) | omega) | assumption | (rw [show Int32.toInt 0 = 0 from rfl]; omega))) S gJ0_checkIndex_df160_J3_checkIndex_8e157 rfl hdS_J3_checkIndex_8e157 ⟨Nat.le_of_ble_eq_true rfl, Nat.le_of_ble_eq_true rfl⟩ ⟨Nat.le_of_ble_eq_true rfl, Nat.le_of_ble_eq_true rfl⟩ hK hT hS hA hP hD [] rfl (by decide) rfl hl.1 rfl (Nat.le_of_ble_eq_true rfl) dJ0_checkIndex_df160_5) hP hD hS hA [] [] rfl rfl (by decide) (by decide) (fun r_1 w_2 H locs hw_3 hP hD hS => ?_)
    obtain rfl := hw_3
    refine lv_pop S.1 S.2.1 dJ0_checkIndex_df160_8 rfl ?_
    exact b_vret S.1 S.2.1 X.2.1 X.2.2.1 hP hD hS rfl dJ0_checkIndex_df160_9
  · refine va_gets (C := "jdk/internal/util/Preconditions") S.1 S.2.1 hz hS S.2.2.2.1 (S.2.2.2.2 (.fieldLink RJ0 1053 "jdk/internal/util/Preconditions" "SIOOBE_FORMATTER" "Ljava/util/function/BiFunction;") (by decide +kernel)) (fun _ h => h) dJ0_checkIndex_df160_2 ?_
    refine b_ai (wr := []) (b_runS (As := [.int i, .int mm, .ref tz_]) (s_J3_checkIndex_8e157 l D cI cZ cC cS sq H.size i mm tz_ (by first | with_reducible assumption | decide | (and_intros <;> first | with_reducible assumption | (intros; refine Int.le_antisymm ?_ ?_ <;> omega) | omega) | assumption | (rw [show Int32.toInt 0 = 0 from rfl]; omega))) S gJ0_checkIndex_df160_J3_checkIndex_8e157 rfl hdS_J3_checkIndex_8e157 ⟨Nat.le_of_ble_eq_true rfl, Nat.le_of_ble_eq_true rfl⟩ ⟨Nat.le_of_ble_eq_true rfl, Nat.le_of_ble_eq_true rfl⟩ hK hT hS hA hP hD [] rfl (by decide) rfl hl.1 rfl (Nat.le_of_ble_eq_true rfl) dJ0_checkIndex_df160_5) hP hD hS hA [] [] rfl rfl (by decide) (by decide) (fun r_4 w_5 H locs hw_6 hP hD hS => ?_)
    obtain rfl := hw_6
    refine lv_pop S.1 S.2.1 dJ0_checkIndex_df160_8 rfl ?_
    exact b_vret S.1 S.2.1 X.2.1 X.2.2.1 hP hD hS rfl dJ0_checkIndex_df160_9
set_option maxHeartbeats 4000000 in
set_option maxRecDepth 100000 in
theorem s_J1_charAt_3b067_0 (l : Launch) (D : va_G) (cI cZ cC cS : ClassId) (sq : Nat → Nat) (sz : Nat) (i : Int32) (hi : 0 ≤ i.toInt ∧ i.toInt < 3) : mI l yJ1_charAt_3b067 wsJ1_charAt_3b067 2 80 D (tyW cI cZ cC cS) sq [] sz [.ref (sq 20), .int i] (fun r w => ((r = (wordB.getD 0 []).getD i.toNatClampNeg 0) ∧ w = [])) := by
  refine b_metI (cc := cJ1_charAt_3b067) (maxL := 2) (ret := (some .char)) (by decide) rfl (Nat.le_of_ble_eq_true rfl) ?_
  intro p e s m below meth c ls A H X hsz hP hK hT hD hA hS hl
  have S : CallFix p m c cJ1_charAt_3b067 2 s ([.ref (sq 20), .int i] : List Value).toArray wsJ1_charAt_3b067 RJ1 := X.1
  have hl : lv_has ls 2 [(0, .ref (sq 20)), (1, .int i)] := hl
  refine lv_iload_n S.1 S.2.1 dJ1_charAt_3b067_0 rfl (lv_at hl 1 rfl) ?_
  refine lv_aload_n S.1 S.2.1 dJ1_charAt_3b067_1 rfl (lv_at hl 0 rfl) ?_
  refine va_tlen (v := 3) S.1 S.2.1 (show va_T .byte (sq 20) 3 (fun j => .int ((wordB.getD 0 []).getD j 0)) A s s.heap from (hT.2.2.2.2.2.2.2.1 0 (by decide)).2.2.2) hS rfl dJ1_charAt_3b067_2 ?_
  refine b_av (wr := []) (b_runS (As := [.int i, .int 3]) (s_J0_checkIndex_df160 l D cI cZ cC cS sq H.size i (3) (by first | with_reducible assumption | decide | (and_intros <;> first | with_reducible assumption | (intros; refine Int.le_antisymm ?_ ?_ <;> omega) | omega) | assumption | (rw [show Int32.toInt 0 = 0 from rfl]; omega))) S gJ1_charAt_3b067_J0_checkIndex_df160 rfl hdS_J0_checkIndex_df160 ⟨Nat.le_of_ble_eq_true rfl, Nat.le_of_ble_eq_true rfl⟩ ⟨Nat.le_of_ble_eq_true rfl, Nat.le_of_ble_eq_true rfl⟩ hK hT hS hA hP hD [] rfl (by decide) rfl hl.1 rfl (Nat.le_of_ble_eq_true rfl) dJ1_charAt_3b067_3) hP hD hS hA [] [] rfl rfl (by decide) (by decide) (fun w_2 H locs hw_3 hP hD hS => ?_)
  obtain rfl := hw_3
  refine lv_aload_n S.1 S.2.1 dJ1_charAt_3b067_6 rfl (lv_at hl 0 rfl) ?_
  refine lv_iload_n S.1 S.2.1 dJ1_charAt_3b067_7 rfl (lv_at hl 1 rfl) ?_
  refine va_tb (v := .int ((wordB.getD 0 []).getD i.toNatClampNeg 0)) S.1 S.2.1 (show va_T .byte (sq 20) 3 (fun j => .int ((wordB.getD 0 []).getD j 0)) A s s.heap from (hT.2.2.2.2.2.2.2.1 0 (by decide)).2.2.2) hS (in_of (n := 3) (by  omega) (by  omega)) rfl dJ1_charAt_3b067_8 ?_
  refine lv_topi (fun x_4 ex_4 => ?_)
  have gL := chG (k := 0) (n := 3) (by decide) rfl hi.1 hi.2 ex_4; have eL := ex_4
  refine lv_sipush (v := (255)) S.1 S.2.1 dJ1_charAt_3b067_9 (by decide) ?_
  refine lv_iand S.1 S.2.1 dJ1_charAt_3b067_12 ?_
  refine lv_topi (fun x_5 ex_5 => ?_)
  have eN := ex_5
  refine lv_i2c S.1 S.2.1 dJ1_charAt_3b067_13 rfl ?_
  refine lv_topi (fun x_6 ex_6 => ?_)
  have tL := (ex_6.trans (by rw [eN])).trans gL.1
  exact b_nret (ty := .char) S.1 S.2.1 X.2.1 X.2.2.1 (by rw [tL]; exact chN gL.2) hP hD hS ⟨(tL.trans eL), rfl⟩ dJ1_charAt_3b067_14
set_option maxHeartbeats 4000000 in
set_option maxRecDepth 100000 in
theorem s_J0_charAt_5068e_0 (l : Launch) (D : va_G) (cI cZ cC cS : ClassId) (sq : Nat → Nat) (sz : Nat) (i : Int32) (hi : 0 ≤ i.toInt ∧ i.toInt < 3) : mI l yJ0_charAt_5068e wsJ0_charAt_5068e 3 120 D (tyW cI cZ cC cS) sq [] sz [.ref (sq 10), .int i] (fun r w => ((r = (wordB.getD 0 []).getD i.toNatClampNeg 0) ∧ w = [])) := by
  refine b_metI (cc := cJ0_charAt_5068e) (maxL := 2) (ret := (some .char)) (by decide) rfl (Nat.le_of_ble_eq_true rfl) ?_
  intro p e s m below meth c ls A H X hsz hP hK hT hD hA hS hl
  have S : CallFix p m c cJ0_charAt_5068e 2 s ([.ref (sq 10), .int i] : List Value).toArray wsJ0_charAt_5068e RJ0 := X.1
  have hl : lv_has ls 2 [(0, .ref (sq 10)), (1, .int i)] := hl
  refine lv_aload_n S.1 S.2.1 dJ0_charAt_5068e_0 rfl (lv_at hl 0 rfl) ?_
  refine b_ai (wr := []) (b_runT (wi := 0) (As := []) (by decide) (s_J0_isLatin1_aae02_0 l D cI cZ cC cS sq H.size ) S gJ0_charAt_5068e_J0_isLatin1_aae02 rfl hdV_J0_isLatin1_aae02 ⟨Nat.le_of_ble_eq_true rfl, Nat.le_of_ble_eq_true rfl⟩ ⟨Nat.le_of_ble_eq_true rfl, Nat.le_of_ble_eq_true rfl⟩ hK hT hS hA hP hD [] rfl (by decide) rfl hl.1 rfl (Nat.le_of_ble_eq_true rfl) dJ0_charAt_5068e_1) hP hD hS hA [] [] rfl rfl (by decide) (by decide) (fun r_1 w_2 H locs hw_3 hP hD hS => ?_)
  obtain ⟨rfl, rfl⟩ := hw_3
  refine lv_if_eq (tgt := 16) S.1 S.2.1 dJ0_charAt_5068e_4 (by decide) (fun c_4 => absurd c_4 (by decide)) (fun c_4 => ?_)
  refine lv_aload_n S.1 S.2.1 dJ0_charAt_5068e_7 rfl (lv_at hl 0 rfl) ?_
  refine vk_getf S.1 S.2.1 (show va_OF "java/lang/String" "value" "[B" (.ref (sq 20)) (sq 10) A s s.heap from (hT.2.2.2.2.2.2.2.1 0 (by decide)).2.2.1) hS S.2.2.2.1 (S.2.2.2.2 (.fieldLink RJ0 9 "java/lang/String" "value" "[B") (by decide +kernel)) (fun _ h => h) dJ0_charAt_5068e_8 ?_
  refine lv_iload_n S.1 S.2.1 dJ0_charAt_5068e_11 rfl (lv_at hl 1 rfl) ?_
  refine b_ai (wr := []) (b_runS (As := [.ref (sq 20), .int i]) (s_J1_charAt_3b067_0 l D cI cZ cC cS sq H.size i (by first | with_reducible assumption | decide | (and_intros <;> first | with_reducible assumption | (intros; refine Int.le_antisymm ?_ ?_ <;> omega) | omega) | assumption | (rw [show Int32.toInt 0 = 0 from rfl]; omega))) S gJ0_charAt_5068e_J1_charAt_3b067 rfl hdS_J1_charAt_3b067 ⟨Nat.le_of_ble_eq_true rfl, Nat.le_of_ble_eq_true rfl⟩ ⟨Nat.le_of_ble_eq_true rfl, Nat.le_of_ble_eq_true rfl⟩ hK hT hS hA hP hD [] rfl (by decide) rfl hl.1 rfl (Nat.le_of_ble_eq_true rfl) dJ0_charAt_5068e_12) hP hD hS hA [] [] rfl rfl (by decide) (by decide) (fun r_5 w_6 H locs hw_7 hP hD hS => ?_)
  obtain ⟨hf_8, rfl⟩ := hw_7
  exact b_nret (ty := .char) S.1 S.2.1 X.2.1 X.2.2.1 (chN (chG (k := 0) (n := 3) (by decide) rfl hi.1 hi.2 (by first | with_reducible assumption | assumption)).2) hP hD hS ⟨(by first | with_reducible assumption | assumption | omega | decide | (rw [show Int32.toInt 0 = 0 from rfl]; omega)), rfl⟩ dJ0_charAt_5068e_15
set_option maxHeartbeats 4000000 in
set_option maxRecDepth 100000 in
theorem lp_isWord0 {p : Program} (l : Launch) {e : Env} {s : State} {m : MethodId} {below : List Frame} {meth : Method} {c : Code} (D : va_G) (cI cZ cC cS : ClassId) (sq : Nat → Nat) (tp : Nat) (by_ : Nat) (tz : Int32) (ts : Int32) (ta : Int32) (tb : Int32) (tv : Int32) (f : Nat → Int32) (a0 : Int) (hrg_f : rng f 400 (0) (255)) (hz : 0 ≤ tz.toInt ∧ tz.toInt ≤ 400) (ht1 : 0 ≤ ta.toInt ∧ ta.toInt ≤ tb.toInt ∧ tb.toInt ≤ tz.toInt) (ht3 : tok (tx f tz.toInt) a0 ts.toInt ta.toInt tb.toInt tv.toInt) (hln : tb.toInt - ta.toInt = 3) {A : Nat → Prop} (X : bX p s m meth c cX5_isWord 3 wsX5_isWord yX5_isWord (some .boolean) [.ref tp, .ref (sq 10)]) (hK : kW D (tyW cI cZ cC cS) sq s) (hT : sT sq A s s.heap) (hA : ∀ q, s.heap.size ≤ q → A q) (K : ∀ (i : Int32), (rng f 400 (0) (255)) → (0 ≤ i.toInt ∧ i.toInt ≤ 3) → (mtw (tx f tz.toInt) a0 0 i.toInt) → (3 ≤ i.toInt) → ∀ (H : Heap) (locs : List Loc) (ls : Array Slot), va_P D vwCl [(tp, .inr (5, [.ref by_, .int tz, .int ts, .int ta, .int tb, .int tv])), (by_, .inl (cI, 400, .inl f))] H → va_D A [(tp, .inr (5, [.ref by_, .int tz, .int ts, .int ta, .int tb, .int tv])), (by_, .inl (cI, 400, .inl f))] → va_S A s.heap H locs → lv_has ls 3 [(2, .int i), (0, .ref tp), (1, .ref (sq 10))] → W p l e (rmW 4 160 0 0) s m ([.ref tp, .ref (sq 10)] : List Value).toArray below meth c H locs 0 0 (MQ below (va_Qi (fun r w => ((tNm (tx f tz.toInt) a0 = wC 0) ∧ r = 1 ∧ w = [(tp, .inr (5, [.ref by_, .int tz, .int ts, .int ta, .int tb, .int tv])), (by_, .inl (cI, 400, .inl f))]) ∨ ((¬ tNm (tx f tz.toInt) a0 = wC 0) ∧ r = 0 ∧ w = [(tp, .inr (5, [.ref by_, .int tz, .int ts, .int ta, .int tb, .int tv])), (by_, .inl (cI, 400, .inl f))])) (wD D A) A) ([.ref tp, .ref (sq 10)] : List Value).toArray s 0 0 A) (F0 m 58 ls [])) : ∀ (mN : Nat) (i : Int32), (rng f 400 (0) (255)) → (0 ≤ i.toInt ∧ i.toInt ≤ 3) → (mtw (tx f tz.toInt) a0 0 i.toInt) → ((3 - i.toInt).toNat < mN) → ∀ (H : Heap) (locs : List Loc) (ls : Array Slot), va_P D vwCl [(tp, .inr (5, [.ref by_, .int tz, .int ts, .int ta, .int tb, .int tv])), (by_, .inl (cI, 400, .inl f))] H → va_D A [(tp, .inr (5, [.ref by_, .int tz, .int ts, .int ta, .int tb, .int tv])), (by_, .inl (cI, 400, .inl f))] → va_S A s.heap H locs → lv_has ls 3 [(2, .int i), (0, .ref tp), (1, .ref (sq 10))] → W p l e (rmW 4 160 0 0) s m ([.ref tp, .ref (sq 10)] : List Value).toArray below meth c H locs 0 0 (MQ below (va_Qi (fun r w => ((tNm (tx f tz.toInt) a0 = wC 0) ∧ r = 1 ∧ w = [(tp, .inr (5, [.ref by_, .int tz, .int ts, .int ta, .int tb, .int tv])), (by_, .inl (cI, 400, .inl f))]) ∨ ((¬ tNm (tx f tz.toInt) a0 = wC 0) ∧ r = 0 ∧ w = [(tp, .inr (5, [.ref by_, .int tz, .int ts, .int ta, .int tb, .int tv])), (by_, .inl (cI, 400, .inl f))])) (wD D A) A) ([.ref tp, .ref (sq 10)] : List Value).toArray s 0 0 A) (F0 m 23 ls []) := by
  have S : CallFix p m c cX5_isWord 3 s ([.ref tp, .ref (sq 10)] : List Value).toArray wsX5_isWord RX5 := X.1
  have iX5 := jX5_isWord_X5
  intro mN
  induction mN with
  | zero => intro i hrg_f hi hmt hm; exact absurd hm (Nat.not_lt_zero _)
  | succ mN ih =>
    intro i hrg_f hi hmt hm H locs ls hP hD hS hl
    refine lv_iload_n S.1 S.2.1 dX5_isWord_23 rfl (lv_at hl 0 rfl) ?_
    refine lv_aload_n S.1 S.2.1 dX5_isWord_24 rfl (lv_at hl 2 rfl) ?_
    refine b_ai (wr := [(tp, .inr (5, [.ref by_, .int tz, .int ts, .int ta, .int tb, .int tv])), (by_, .inl (cI, 400, .inl f))]) (b_runT (wi := 0) (As := []) (by decide) (s_J0_length_8abf5_0 l D cI cZ cC cS sq H.size ) S gX5_isWord_J0_length_8abf5 rfl hdV_J0_length_8abf5 ⟨Nat.le_of_ble_eq_true rfl, Nat.le_of_ble_eq_true rfl⟩ ⟨Nat.le_of_ble_eq_true rfl, Nat.le_of_ble_eq_true rfl⟩ hK hT hS hA hP hD [] rfl (by decide) rfl hl.1 rfl (Nat.le_of_ble_eq_true rfl) dX5_isWord_25) hP hD hS hA [] [0, 1] rfl rfl (by decide) (by decide) (fun r_101 w_102 H locs hw_103 hP hD hS => ?_)
    obtain ⟨rfl, rfl⟩ := hw_103
    have hP : va_P D vwCl [(tp, .inr (5, [.ref by_, .int tz, .int ts, .int ta, .int tb, .int tv])), (by_, .inl (cI, 400, .inl f))] H := hP
    have hD : va_D A [(tp, .inr (5, [.ref by_, .int tz, .int ts, .int ta, .int tb, .int tv])), (by_, .inl (cI, 400, .inl f))] := hD
    refine lv_icmp_ge (tgt := 58) S.1 S.2.1 dX5_isWord_28 (by decide) (fun c_104 => ?_) (fun c_104 => ?_)
    · rw [le2 (a := 3) (b := i) (A := 3) (B := i.toInt) rfl rfl] at c_104
      exact K i (by first | with_reducible assumption | assumption | omega | decide | (rw [show Int32.toInt 0 = 0 from rfl]; omega)) (by first | with_reducible assumption | decide | (and_intros <;> first | with_reducible assumption | (intros; refine Int.le_antisymm ?_ ?_ <;> omega) | omega) | assumption | (rw [show Int32.toInt 0 = 0 from rfl]; omega)) (by first | assumption | exact mtw_st hmt (by first | with_reducible assumption | assumption) (by have y := ht3.1; omega) (by first | (and_intros <;> first | with_reducible assumption | (refine Int.le_antisymm ?_ ?_ <;> omega) | omega) | omega) (by first | (and_intros <;> first | with_reducible assumption | (refine Int.le_antisymm ?_ ?_ <;> omega) | omega) | omega) (by first | with_reducible assumption | assumption) (by first | (and_intros <;> first | with_reducible assumption | (refine Int.le_antisymm ?_ ?_ <;> omega) | omega) | omega)) (by first | with_reducible assumption | decide | (and_intros <;> first | with_reducible assumption | (intros; refine Int.le_antisymm ?_ ?_ <;> omega) | omega) | assumption | (rw [show Int32.toInt 0 = 0 from rfl]; omega)) H _ ls hP hD hS (lv_sub hl [0, 1, 2] rfl)
    · rw [le2 (a := 3) (b := i) (A := 3) (B := i.toInt) rfl rfl] at c_104
      refine lv_aload_n S.1 S.2.1 dX5_isWord_31 rfl (lv_at hl 1 rfl) ?_
      refine b_get (v := .ref by_) S iX5 hK hP 0 rfl rfl 0 (by decide) (by decide +kernel) rfl dX5_isWord_32 ?_
      refine lv_aload_n S.1 S.2.1 dX5_isWord_35 rfl (lv_at hl 1 rfl) ?_
      refine b_get (v := .int ta) S iX5 hK hP 0 rfl rfl 3 (by decide) (by decide +kernel) rfl dX5_isWord_36 ?_
      refine lv_iload_n S.1 S.2.1 dX5_isWord_39 rfl (lv_at hl 0 rfl) ?_
      refine lv_iadd S.1 S.2.1 dX5_isWord_40 ?_
      refine lv_topi (fun x_105 ex_105 => ?_)
      have tx_105 : x_105.toInt = ta.toInt + (i.toInt) := addI (A := ta.toInt) (B := i.toInt) ex_105 rfl rfl (by  omega) (by  omega)
      have hin_106 : vp_in x_105 400 := (in_of (n := 400) (by  omega) (by  omega))
      refine va_iald S.1 S.2.1 hK.1 hP 1 0 rfl rfl hin_106 dX5_isWord_41 ?_
      refine lv_topi (fun x_107 ex_107 => ?_)
      have tx_107 := rng_get (x := x_107) (show rng f 400 (0) (255) by assumption) hin_106 ex_107
      have qx_107 := tx_get (n := tz.toInt) (i := x_105) (by first | (and_intros <;> first | with_reducible assumption | (refine Int.le_antisymm ?_ ?_ <;> omega) | omega) | omega) (by first | (and_intros <;> first | with_reducible assumption | (refine Int.le_antisymm ?_ ?_ <;> omega) | omega) | omega) ex_107
      refine lv_aload_n S.1 S.2.1 dX5_isWord_42 rfl (lv_at hl 2 rfl) ?_
      refine lv_iload_n S.1 S.2.1 dX5_isWord_43 rfl (lv_at hl 0 rfl) ?_
      refine b_ai (wr := [(tp, .inr (5, [.ref by_, .int tz, .int ts, .int ta, .int tb, .int tv])), (by_, .inl (cI, 400, .inl f))]) (b_runT (wi := 0) (As := [.int i]) (by decide) (s_J0_charAt_5068e_0 l D cI cZ cC cS sq H.size i (by first | with_reducible assumption | decide | (and_intros <;> first | with_reducible assumption | (intros; refine Int.le_antisymm ?_ ?_ <;> omega) | omega) | assumption | (rw [show Int32.toInt 0 = 0 from rfl]; omega))) S gX5_isWord_J0_charAt_5068e rfl hdV_J0_charAt_5068e ⟨Nat.le_of_ble_eq_true rfl, Nat.le_of_ble_eq_true rfl⟩ ⟨Nat.le_of_ble_eq_true rfl, Nat.le_of_ble_eq_true rfl⟩ hK hT hS hA hP hD [] rfl (by decide) rfl hl.1 rfl (Nat.le_of_ble_eq_true rfl) dX5_isWord_44) hP hD hS hA [] [0, 1] rfl rfl (by decide) (by decide) (fun r_108 w_109 H locs hw_110 hP hD hS => ?_)
      obtain ⟨hf_111, rfl⟩ := hw_110
      have hP : va_P D vwCl [(tp, .inr (5, [.ref by_, .int tz, .int ts, .int ta, .int tb, .int tv])), (by_, .inl (cI, 400, .inl f))] H := hP
      have hD : va_D A [(tp, .inr (5, [.ref by_, .int tz, .int ts, .int ta, .int tb, .int tv])), (by_, .inl (cI, 400, .inl f))] := hD
      refine lv_icmp_eq (tgt := 52) S.1 S.2.1 dX5_isWord_47 (by decide) (fun c_112 => ?_) (fun c_112 => ?_)
      · rw [eq2 (a := x_107) (b := r_108) (A := x_107.toInt) (B := r_108.toInt) rfl rfl] at c_112
        obtain ⟨x_113, ex_113⟩ : ∃ y : Int32, y = i + Int32.ofInt (1) := ⟨_, rfl⟩
        refine lv_iinc (v := x_113) (lv' := [(2, .int x_113), (0, .ref tp), (1, .ref (sq 10))]) S.1 S.2.1 dX5_isWord_52 hl (k := 0) rfl ex_113.symm (by decide) rfl (fun ls hl => ?_)
        have tx_113 : x_113.toInt = i.toInt + (1) := addI (A := i.toInt) (B := 1) ex_113 rfl rfl (by  omega) (by  omega)
        refine lv_goto (tgt := 23) S.1 S.2.1 dX5_isWord_55 (by decide) ?_
        exact ih x_113 (by first | with_reducible assumption | assumption | omega | decide | (rw [show Int32.toInt 0 = 0 from rfl]; omega)) (by first | with_reducible assumption | decide | (and_intros <;> first | with_reducible assumption | (intros; refine Int.le_antisymm ?_ ?_ <;> omega) | omega) | assumption | (rw [show Int32.toInt 0 = 0 from rfl]; omega)) (by first | assumption | exact mtw_st hmt (by first | with_reducible assumption | assumption) (by have y := ht3.1; omega) (by first | (and_intros <;> first | with_reducible assumption | (refine Int.le_antisymm ?_ ?_ <;> omega) | omega) | omega) (by first | (and_intros <;> first | with_reducible assumption | (refine Int.le_antisymm ?_ ?_ <;> omega) | omega) | omega) (by first | with_reducible assumption | assumption) (by first | (and_intros <;> first | with_reducible assumption | (refine Int.le_antisymm ?_ ?_ <;> omega) | omega) | omega)) (by first | (and_intros <;> first | with_reducible assumption | (refine Int.le_antisymm ?_ ?_ <;> omega) | omega) | omega) H _ ls hP hD hS (lv_sub hl [0, 1, 2] rfl)
      · rw [eq2 (a := x_107) (b := r_108) (A := x_107.toInt) (B := r_108.toInt) rfl rfl] at c_112
        refine lv_iconst (v := (0)) S.1 S.2.1 dX5_isWord_50 (by decide) ?_
        exact b_zret S.1 S.2.1 X.2.1 X.2.2.1 rfl hP hD hS (Or.inr (⟨(fun q => by have z := wn_0 q; have y1 := ht3.2.1; have y2 := ht3.2.2.1; have y3 := ht3.1; first | omega | exact mtw_no (i := i) z.2.2 (by first | with_reducible assumption | assumption) (by first | (and_intros <;> first | with_reducible assumption | (refine Int.le_antisymm ?_ ?_ <;> omega) | omega) | omega) (by first | (and_intros <;> first | with_reducible assumption | (refine Int.le_antisymm ?_ ?_ <;> omega) | omega) | omega) (by first | (and_intros <;> first | with_reducible assumption | (refine Int.le_antisymm ?_ ?_ <;> omega) | omega) | omega) (by first | with_reducible assumption | assumption) (by first | (and_intros <;> first | with_reducible assumption | (refine Int.le_antisymm ?_ ?_ <;> omega) | omega) | omega)), rfl, rfl⟩)) dX5_isWord_51
set_option maxHeartbeats 4000000 in
set_option maxRecDepth 100000 in
theorem s_X5_isWord_0 (l : Launch) (D : va_G) (cI cZ cC cS : ClassId) (sq : Nat → Nat) (sz : Nat) (tp : Nat) (by_ : Nat) (tz : Int32) (ts : Int32) (ta : Int32) (tb : Int32) (tv : Int32) (f : Nat → Int32) (a0 : Int) (hrg_f : rng f 400 (0) (255)) (hz : 0 ≤ tz.toInt ∧ tz.toInt ≤ 400) (ht1 : 0 ≤ ta.toInt ∧ ta.toInt ≤ tb.toInt ∧ tb.toInt ≤ tz.toInt) (ht3 : tok (tx f tz.toInt) a0 ts.toInt ta.toInt tb.toInt tv.toInt) : mI l yX5_isWord wsX5_isWord 4 160 D (tyW cI cZ cC cS) sq [(tp, .inr (5, [.ref by_, .int tz, .int ts, .int ta, .int tb, .int tv])), (by_, .inl (cI, 400, .inl f))] sz [.ref tp, .ref (sq 10)] (fun r w => ((tNm (tx f tz.toInt) a0 = wC 0) ∧ r = 1 ∧ w = [(tp, .inr (5, [.ref by_, .int tz, .int ts, .int ta, .int tb, .int tv])), (by_, .inl (cI, 400, .inl f))]) ∨ ((¬ tNm (tx f tz.toInt) a0 = wC 0) ∧ r = 0 ∧ w = [(tp, .inr (5, [.ref by_, .int tz, .int ts, .int ta, .int tb, .int tv])), (by_, .inl (cI, 400, .inl f))])) := by
  refine b_metI (cc := cX5_isWord) (maxL := 3) (ret := (some .boolean)) (by decide) rfl (Nat.le_of_ble_eq_true rfl) ?_
  intro p e s m below meth c ls A H X hsz hP hK hT hD hA hS hl
  have S : CallFix p m c cX5_isWord 3 s ([.ref tp, .ref (sq 10)] : List Value).toArray wsX5_isWord RX5 := X.1
  have hl : lv_has ls 3 [(0, .ref tp), (1, .ref (sq 10))] := hl
  have iX5 := jX5_isWord_X5
  refine lv_aload_n S.1 S.2.1 dX5_isWord_0 rfl (lv_at hl 0 rfl) ?_
  refine b_get (v := .int ts) S iX5 hK hP 0 rfl rfl 2 (by decide) (by decide +kernel) rfl dX5_isWord_1 ?_
  refine lv_iconst (v := (1)) S.1 S.2.1 dX5_isWord_4 (by decide) ?_
  refine lv_icmp_ne (tgt := 19) S.1 S.2.1 dX5_isWord_5 (by decide) (fun c_1 => ?_) (fun c_1 => ?_)
  · rw [eq2 (a := ts) (b := 1) (A := ts.toInt) (B := 1) rfl rfl] at c_1
    refine lv_iconst (v := (0)) S.1 S.2.1 dX5_isWord_19 (by decide) ?_
    exact b_zret S.1 S.2.1 X.2.1 X.2.2.1 rfl hP hD hS (Or.inr (⟨(fun q => by have z := wn_0 q; have y1 := ht3.2.1; have y2 := ht3.2.2.1; have y3 := ht3.1; first | omega | exact mtw_no (i := i) z.2.2 (by first | with_reducible assumption | assumption) (by first | (and_intros <;> first | with_reducible assumption | (refine Int.le_antisymm ?_ ?_ <;> omega) | omega) | omega) (by first | (and_intros <;> first | with_reducible assumption | (refine Int.le_antisymm ?_ ?_ <;> omega) | omega) | omega) (by first | (and_intros <;> first | with_reducible assumption | (refine Int.le_antisymm ?_ ?_ <;> omega) | omega) | omega) (by first | with_reducible assumption | assumption) (by first | (and_intros <;> first | with_reducible assumption | (refine Int.le_antisymm ?_ ?_ <;> omega) | omega) | omega)), rfl, rfl⟩)) dX5_isWord_20
  · rw [eq2 (a := ts) (b := 1) (A := ts.toInt) (B := 1) rfl rfl] at c_1
    refine lv_aload_n S.1 S.2.1 dX5_isWord_8 rfl (lv_at hl 0 rfl) ?_
    refine b_ai (wr := [(by_, .inl (cI, 400, .inl f))]) (b_runV (q0 := 0) (ci := 5) (As := []) (s_X5_length l D cI cZ cC cS sq H.size tp by_ tz ts ta tb tv (by first | with_reducible assumption | decide | (and_intros <;> first | with_reducible assumption | (intros; refine Int.le_antisymm ?_ ?_ <;> omega) | omega) | assumption | (rw [show Int32.toInt 0 = 0 from rfl]; omega))) S gX5_isWord_X5_length rfl hdV_X5_length ⟨Nat.le_of_ble_eq_true rfl, Nat.le_of_ble_eq_true rfl⟩ ⟨Nat.le_of_ble_eq_true rfl, Nat.le_of_ble_eq_true rfl⟩ hK hT hS hA hP hD rfl rfl [0] rfl (by decide) rfl hl.1 rfl (Nat.le_of_ble_eq_true rfl) dX5_isWord_9) hP hD hS hA [0] [1] rfl rfl (by decide) (by decide) (fun r_2 w_3 H locs hw_4 hP hD hS => ?_)
    obtain ⟨hf_5, rfl⟩ := hw_4
    have hP : va_P D vwCl [(by_, .inl (cI, 400, .inl f)), (tp, .inr (5, [.ref by_, .int tz, .int ts, .int ta, .int tb, .int tv]))] H := hP
    have hD : va_D A [(by_, .inl (cI, 400, .inl f)), (tp, .inr (5, [.ref by_, .int tz, .int ts, .int ta, .int tb, .int tv]))] := hD
    refine lv_aload_n S.1 S.2.1 dX5_isWord_12 rfl (lv_at hl 1 rfl) ?_
    refine b_ai (wr := [(by_, .inl (cI, 400, .inl f)), (tp, .inr (5, [.ref by_, .int tz, .int ts, .int ta, .int tb, .int tv]))]) (b_runT (wi := 0) (As := []) (by decide) (s_J0_length_8abf5_0 l D cI cZ cC cS sq H.size ) S gX5_isWord_J0_length_8abf5 rfl hdV_J0_length_8abf5 ⟨Nat.le_of_ble_eq_true rfl, Nat.le_of_ble_eq_true rfl⟩ ⟨Nat.le_of_ble_eq_true rfl, Nat.le_of_ble_eq_true rfl⟩ hK hT hS hA hP hD [] rfl (by decide) rfl hl.1 rfl (Nat.le_of_ble_eq_true rfl) dX5_isWord_13) hP hD hS hA [] [0, 1] rfl rfl (by decide) (by decide) (fun r_6 w_7 H locs hw_8 hP hD hS => ?_)
    obtain ⟨rfl, rfl⟩ := hw_8
    have hP : va_P D vwCl [(by_, .inl (cI, 400, .inl f)), (tp, .inr (5, [.ref by_, .int tz, .int ts, .int ta, .int tb, .int tv]))] H := hP
    have hD : va_D A [(by_, .inl (cI, 400, .inl f)), (tp, .inr (5, [.ref by_, .int tz, .int ts, .int ta, .int tb, .int tv]))] := hD
    refine lv_icmp_eq (tgt := 21) S.1 S.2.1 dX5_isWord_16 (by decide) (fun c_9 => ?_) (fun c_9 => ?_)
    · rw [eq2 (a := r_2) (b := 3) (A := r_2.toInt) (B := 3) rfl rfl] at c_9
      refine lv_iconst (v := (0)) S.1 S.2.1 dX5_isWord_21 (by decide) ?_
      refine lv_istore_n (lv' := [(2, .int 0), (0, .ref tp), (1, .ref (sq 10))]) S.1 S.2.1 dX5_isWord_22 rfl hl (by decide) rfl (fun ls hl => ?_)
      have hP := hP.sub (ws' := [(tp, .inr (5, [.ref by_, .int tz, .int ts, .int ta, .int tb, .int tv])), (by_, .inl (cI, 400, .inl f))]) [1, 0] rfl
      have hD := hD.sub (ws' := [(tp, .inr (5, [.ref by_, .int tz, .int ts, .int ta, .int tb, .int tv])), (by_, .inl (cI, 400, .inl f))]) [1, 0] (by decide) rfl
      refine lp_isWord0 l D cI cZ cC cS sq tp by_ tz ts ta tb tv f a0 hrg_f hz ht1 ht3 (by first | with_reducible assumption | decide | (and_intros <;> first | with_reducible assumption | (intros; refine Int.le_antisymm ?_ ?_ <;> omega) | omega) | assumption | (rw [show Int32.toInt 0 = 0 from rfl]; omega)) X hK hT hA (fun i_10 hi_11 hi_12 hi_13 hi_14 H locs ls hP hD hS hl => ?_) _ (0) (by first | with_reducible assumption | assumption | omega | decide | (rw [show Int32.toInt 0 = 0 from rfl]; omega)) (by first | with_reducible assumption | decide | (and_intros <;> first | with_reducible assumption | (intros; refine Int.le_antisymm ?_ ?_ <;> omega) | omega) | assumption | (rw [show Int32.toInt 0 = 0 from rfl]; omega)) (mtw_0 (by decide)) (Nat.lt_succ_self _) H _ ls hP hD hS (lv_sub hl [0, 1, 2] rfl)
      refine lv_iconst (v := (1)) S.1 S.2.1 dX5_isWord_58 (by decide) ?_
      exact b_zret S.1 S.2.1 X.2.1 X.2.2.1 rfl hP hD hS (Or.inl ⟨(wy_0 (tok_k ht3 (by first | with_reducible assumption | assumption)) (by have z := ht3.2.2.1; have y := ht3.1; omega) (mtw_sub (by first | with_reducible assumption | assumption) (by first | (and_intros <;> first | with_reducible assumption | (refine Int.le_antisymm ?_ ?_ <;> omega) | omega) | omega))), rfl, rfl⟩) dX5_isWord_59
    · rw [eq2 (a := r_2) (b := 3) (A := r_2.toInt) (B := 3) rfl rfl] at c_9
      refine lv_iconst (v := (0)) S.1 S.2.1 dX5_isWord_19 (by decide) ?_
      have hP := hP.sub (ws' := [(tp, .inr (5, [.ref by_, .int tz, .int ts, .int ta, .int tb, .int tv])), (by_, .inl (cI, 400, .inl f))]) [1, 0] rfl
      have hD := hD.sub (ws' := [(tp, .inr (5, [.ref by_, .int tz, .int ts, .int ta, .int tb, .int tv])), (by_, .inl (cI, 400, .inl f))]) [1, 0] (by decide) rfl
      exact b_zret S.1 S.2.1 X.2.1 X.2.2.1 rfl hP hD hS (Or.inr (⟨(fun q => by have z := wn_0 q; have y1 := ht3.2.1; have y2 := ht3.2.2.1; have y3 := ht3.1; first | omega | exact mtw_no (i := i) z.2.2 (by first | with_reducible assumption | assumption) (by first | (and_intros <;> first | with_reducible assumption | (refine Int.le_antisymm ?_ ?_ <;> omega) | omega) | omega) (by first | (and_intros <;> first | with_reducible assumption | (refine Int.le_antisymm ?_ ?_ <;> omega) | omega) | omega) (by first | (and_intros <;> first | with_reducible assumption | (refine Int.le_antisymm ?_ ?_ <;> omega) | omega) | omega) (by first | with_reducible assumption | assumption) (by first | (and_intros <;> first | with_reducible assumption | (refine Int.le_antisymm ?_ ?_ <;> omega) | omega) | omega)), rfl, rfl⟩)) dX5_isWord_20
set_option maxHeartbeats 4000000 in
set_option maxRecDepth 100000 in
theorem s_J0_coder_7d493_1 (l : Launch) (D : va_G) (cI cZ cC cS : ClassId) (sq : Nat → Nat) (sz : Nat)  : mI l yJ0_coder_7d493 wsJ0_coder_7d493 0 0 D (tyW cI cZ cC cS) sq [] sz [.ref (sq 11)] (fun r w => (r = 0 ∧ w = [])) := by
  refine b_metI (cc := cJ0_coder_7d493) (maxL := 1) (ret := (some .byte)) (by decide) rfl (Nat.le_of_ble_eq_true rfl) ?_
  intro p e s m below meth c ls A H X hsz hP hK hT hD hA hS hl
  have S : CallFix p m c cJ0_coder_7d493 1 s ([.ref (sq 11)] : List Value).toArray wsJ0_coder_7d493 RJ0 := X.1
  have hl : lv_has ls 1 [(0, .ref (sq 11))] := hl
  refine va_gets (C := "java/lang/String") S.1 S.2.1 hT.2.2.2.2.2.1 hS S.2.2.2.1 (S.2.2.2.2 (.fieldLink RJ0 38 "java/lang/String" "COMPACT_STRINGS" "Z") (by decide +kernel)) (fun _ h => h) dJ0_coder_7d493_0 ?_
  refine lv_if_eq (tgt := 13) S.1 S.2.1 dJ0_coder_7d493_3 (by decide) (fun c_1 => absurd c_1 (by decide)) (fun c_1 => ?_)
  refine lv_aload_n S.1 S.2.1 dJ0_coder_7d493_6 rfl (lv_at hl 0 rfl) ?_
  refine vk_getf S.1 S.2.1 (show va_OF "java/lang/String" "coder" "B" (.int 0) (sq 11) A s s.heap from (hT.2.2.2.2.2.2.2.1 1 (by decide)).2.1) hS S.2.2.2.1 (S.2.2.2.2 (.fieldLink RJ0 15 "java/lang/String" "coder" "B") (by decide +kernel)) (fun _ h => h) dJ0_coder_7d493_7 ?_
  refine lv_goto (tgt := 14) S.1 S.2.1 dJ0_coder_7d493_10 (by decide) ?_
  exact b_nret (ty := .byte) S.1 S.2.1 X.2.1 X.2.2.1 rfl hP hD hS ⟨rfl, rfl⟩ dJ0_coder_7d493_14
set_option maxHeartbeats 4000000 in
set_option maxRecDepth 100000 in
theorem s_J0_length_8abf5_1 (l : Launch) (D : va_G) (cI cZ cC cS : ClassId) (sq : Nat → Nat) (sz : Nat)  : mI l yJ0_length_8abf5 wsJ0_length_8abf5 1 40 D (tyW cI cZ cC cS) sq [] sz [.ref (sq 11)] (fun r w => (r = 5 ∧ w = [])) := by
  refine b_metI (cc := cJ0_length_8abf5) (maxL := 1) (ret := (some .int)) (by decide) rfl (Nat.le_of_ble_eq_true rfl) ?_
  intro p e s m below meth c ls A H X hsz hP hK hT hD hA hS hl
  have S : CallFix p m c cJ0_length_8abf5 1 s ([.ref (sq 11)] : List Value).toArray wsJ0_length_8abf5 RJ0 := X.1
  have hl : lv_has ls 1 [(0, .ref (sq 11))] := hl
  refine lv_aload_n S.1 S.2.1 dJ0_length_8abf5_0 rfl (lv_at hl 0 rfl) ?_
  refine vk_getf S.1 S.2.1 (show va_OF "java/lang/String" "value" "[B" (.ref (sq 21)) (sq 11) A s s.heap from (hT.2.2.2.2.2.2.2.1 1 (by decide)).2.2.1) hS S.2.2.2.1 (S.2.2.2.2 (.fieldLink RJ0 9 "java/lang/String" "value" "[B") (by decide +kernel)) (fun _ h => h) dJ0_length_8abf5_1 ?_
  refine va_tlen (v := 5) S.1 S.2.1 (show va_T .byte (sq 21) 5 (fun j => .int ((wordB.getD 1 []).getD j 0)) A s s.heap from (hT.2.2.2.2.2.2.2.1 1 (by decide)).2.2.2) hS rfl dJ0_length_8abf5_4 ?_
  refine lv_aload_n S.1 S.2.1 dJ0_length_8abf5_5 rfl (lv_at hl 0 rfl) ?_
  refine b_ai (wr := []) (b_runT (wi := 1) (As := []) (by decide) (s_J0_coder_7d493_1 l D cI cZ cC cS sq H.size ) S gJ0_length_8abf5_J0_coder_7d493 rfl hdV_J0_coder_7d493 ⟨Nat.le_of_ble_eq_true rfl, Nat.le_of_ble_eq_true rfl⟩ ⟨Nat.le_of_ble_eq_true rfl, Nat.le_of_ble_eq_true rfl⟩ hK hT hS hA hP hD [] rfl (by decide) rfl hl.1 rfl (Nat.le_of_ble_eq_true rfl) dJ0_length_8abf5_6) hP hD hS hA [] [] rfl rfl (by decide) (by decide) (fun r_1 w_2 H locs hw_3 hP hD hS => ?_)
  obtain ⟨rfl, rfl⟩ := hw_3
  refine lv_ishr S.1 S.2.1 dJ0_length_8abf5_9 ?_
  refine lv_topi (fun x_4 ex_4 => ?_)
  have ex_4 : x_4 = 5 := by rw [ex_4]; decide
  subst ex_4
  exact b_iret S.1 S.2.1 X.2.1 X.2.2.1 hP hD hS ⟨rfl, rfl⟩ dJ0_length_8abf5_10
set_option maxHeartbeats 4000000 in
set_option maxRecDepth 100000 in
theorem s_J0_isLatin1_aae02_1 (l : Launch) (D : va_G) (cI cZ cC cS : ClassId) (sq : Nat → Nat) (sz : Nat)  : mI l yJ0_isLatin1_aae02 wsJ0_isLatin1_aae02 0 0 D (tyW cI cZ cC cS) sq [] sz [.ref (sq 11)] (fun r w => (r = 1 ∧ w = [])) := by
  refine b_metI (cc := cJ0_isLatin1_aae02) (maxL := 1) (ret := (some .boolean)) (by decide) rfl (Nat.le_of_ble_eq_true rfl) ?_
  intro p e s m below meth c ls A H X hsz hP hK hT hD hA hS hl
  have S : CallFix p m c cJ0_isLatin1_aae02 1 s ([.ref (sq 11)] : List Value).toArray wsJ0_isLatin1_aae02 RJ0 := X.1
  have hl : lv_has ls 1 [(0, .ref (sq 11))] := hl
  refine va_gets (C := "java/lang/String") S.1 S.2.1 hT.2.2.2.2.2.1 hS S.2.2.2.1 (S.2.2.2.2 (.fieldLink RJ0 38 "java/lang/String" "COMPACT_STRINGS" "Z") (by decide +kernel)) (fun _ h => h) dJ0_isLatin1_aae02_0 ?_
  refine lv_if_eq (tgt := 17) S.1 S.2.1 dJ0_isLatin1_aae02_3 (by decide) (fun c_1 => absurd c_1 (by decide)) (fun c_1 => ?_)
  refine lv_aload_n S.1 S.2.1 dJ0_isLatin1_aae02_6 rfl (lv_at hl 0 rfl) ?_
  refine vk_getf S.1 S.2.1 (show va_OF "java/lang/String" "coder" "B" (.int 0) (sq 11) A s s.heap from (hT.2.2.2.2.2.2.2.1 1 (by decide)).2.1) hS S.2.2.2.1 (S.2.2.2.2 (.fieldLink RJ0 15 "java/lang/String" "coder" "B") (by decide +kernel)) (fun _ h => h) dJ0_isLatin1_aae02_7 ?_
  refine lv_if_ne (tgt := 17) S.1 S.2.1 dJ0_isLatin1_aae02_10 (by decide) (fun c_2 => absurd c_2 (by decide)) (fun c_2 => ?_)
  refine lv_iconst (v := (1)) S.1 S.2.1 dJ0_isLatin1_aae02_13 (by decide) ?_
  refine lv_goto (tgt := 18) S.1 S.2.1 dJ0_isLatin1_aae02_14 (by decide) ?_
  exact b_zret S.1 S.2.1 X.2.1 X.2.2.1 rfl hP hD hS ⟨rfl, rfl⟩ dJ0_isLatin1_aae02_18
set_option maxHeartbeats 4000000 in
set_option maxRecDepth 100000 in
theorem s_J1_charAt_3b067_1 (l : Launch) (D : va_G) (cI cZ cC cS : ClassId) (sq : Nat → Nat) (sz : Nat) (i : Int32) (hi : 0 ≤ i.toInt ∧ i.toInt < 5) : mI l yJ1_charAt_3b067 wsJ1_charAt_3b067 2 80 D (tyW cI cZ cC cS) sq [] sz [.ref (sq 21), .int i] (fun r w => ((r = (wordB.getD 1 []).getD i.toNatClampNeg 0) ∧ w = [])) := by
  refine b_metI (cc := cJ1_charAt_3b067) (maxL := 2) (ret := (some .char)) (by decide) rfl (Nat.le_of_ble_eq_true rfl) ?_
  intro p e s m below meth c ls A H X hsz hP hK hT hD hA hS hl
  have S : CallFix p m c cJ1_charAt_3b067 2 s ([.ref (sq 21), .int i] : List Value).toArray wsJ1_charAt_3b067 RJ1 := X.1
  have hl : lv_has ls 2 [(0, .ref (sq 21)), (1, .int i)] := hl
  refine lv_iload_n S.1 S.2.1 dJ1_charAt_3b067_0 rfl (lv_at hl 1 rfl) ?_
  refine lv_aload_n S.1 S.2.1 dJ1_charAt_3b067_1 rfl (lv_at hl 0 rfl) ?_
  refine va_tlen (v := 5) S.1 S.2.1 (show va_T .byte (sq 21) 5 (fun j => .int ((wordB.getD 1 []).getD j 0)) A s s.heap from (hT.2.2.2.2.2.2.2.1 1 (by decide)).2.2.2) hS rfl dJ1_charAt_3b067_2 ?_
  refine b_av (wr := []) (b_runS (As := [.int i, .int 5]) (s_J0_checkIndex_df160 l D cI cZ cC cS sq H.size i (5) (by first | with_reducible assumption | decide | (and_intros <;> first | with_reducible assumption | (intros; refine Int.le_antisymm ?_ ?_ <;> omega) | omega) | assumption | (rw [show Int32.toInt 0 = 0 from rfl]; omega))) S gJ1_charAt_3b067_J0_checkIndex_df160 rfl hdS_J0_checkIndex_df160 ⟨Nat.le_of_ble_eq_true rfl, Nat.le_of_ble_eq_true rfl⟩ ⟨Nat.le_of_ble_eq_true rfl, Nat.le_of_ble_eq_true rfl⟩ hK hT hS hA hP hD [] rfl (by decide) rfl hl.1 rfl (Nat.le_of_ble_eq_true rfl) dJ1_charAt_3b067_3) hP hD hS hA [] [] rfl rfl (by decide) (by decide) (fun w_2 H locs hw_3 hP hD hS => ?_)
  obtain rfl := hw_3
  refine lv_aload_n S.1 S.2.1 dJ1_charAt_3b067_6 rfl (lv_at hl 0 rfl) ?_
  refine lv_iload_n S.1 S.2.1 dJ1_charAt_3b067_7 rfl (lv_at hl 1 rfl) ?_
  refine va_tb (v := .int ((wordB.getD 1 []).getD i.toNatClampNeg 0)) S.1 S.2.1 (show va_T .byte (sq 21) 5 (fun j => .int ((wordB.getD 1 []).getD j 0)) A s s.heap from (hT.2.2.2.2.2.2.2.1 1 (by decide)).2.2.2) hS (in_of (n := 5) (by  omega) (by  omega)) rfl dJ1_charAt_3b067_8 ?_
  refine lv_topi (fun x_4 ex_4 => ?_)
  have gL := chG (k := 1) (n := 5) (by decide) rfl hi.1 hi.2 ex_4; have eL := ex_4
  refine lv_sipush (v := (255)) S.1 S.2.1 dJ1_charAt_3b067_9 (by decide) ?_
  refine lv_iand S.1 S.2.1 dJ1_charAt_3b067_12 ?_
  refine lv_topi (fun x_5 ex_5 => ?_)
  have eN := ex_5
  refine lv_i2c S.1 S.2.1 dJ1_charAt_3b067_13 rfl ?_
  refine lv_topi (fun x_6 ex_6 => ?_)
  have tL := (ex_6.trans (by rw [eN])).trans gL.1
  exact b_nret (ty := .char) S.1 S.2.1 X.2.1 X.2.2.1 (by rw [tL]; exact chN gL.2) hP hD hS ⟨(tL.trans eL), rfl⟩ dJ1_charAt_3b067_14
set_option maxHeartbeats 4000000 in
set_option maxRecDepth 100000 in
theorem s_J0_charAt_5068e_1 (l : Launch) (D : va_G) (cI cZ cC cS : ClassId) (sq : Nat → Nat) (sz : Nat) (i : Int32) (hi : 0 ≤ i.toInt ∧ i.toInt < 5) : mI l yJ0_charAt_5068e wsJ0_charAt_5068e 3 120 D (tyW cI cZ cC cS) sq [] sz [.ref (sq 11), .int i] (fun r w => ((r = (wordB.getD 1 []).getD i.toNatClampNeg 0) ∧ w = [])) := by
  refine b_metI (cc := cJ0_charAt_5068e) (maxL := 2) (ret := (some .char)) (by decide) rfl (Nat.le_of_ble_eq_true rfl) ?_
  intro p e s m below meth c ls A H X hsz hP hK hT hD hA hS hl
  have S : CallFix p m c cJ0_charAt_5068e 2 s ([.ref (sq 11), .int i] : List Value).toArray wsJ0_charAt_5068e RJ0 := X.1
  have hl : lv_has ls 2 [(0, .ref (sq 11)), (1, .int i)] := hl
  refine lv_aload_n S.1 S.2.1 dJ0_charAt_5068e_0 rfl (lv_at hl 0 rfl) ?_
  refine b_ai (wr := []) (b_runT (wi := 1) (As := []) (by decide) (s_J0_isLatin1_aae02_1 l D cI cZ cC cS sq H.size ) S gJ0_charAt_5068e_J0_isLatin1_aae02 rfl hdV_J0_isLatin1_aae02 ⟨Nat.le_of_ble_eq_true rfl, Nat.le_of_ble_eq_true rfl⟩ ⟨Nat.le_of_ble_eq_true rfl, Nat.le_of_ble_eq_true rfl⟩ hK hT hS hA hP hD [] rfl (by decide) rfl hl.1 rfl (Nat.le_of_ble_eq_true rfl) dJ0_charAt_5068e_1) hP hD hS hA [] [] rfl rfl (by decide) (by decide) (fun r_1 w_2 H locs hw_3 hP hD hS => ?_)
  obtain ⟨rfl, rfl⟩ := hw_3
  refine lv_if_eq (tgt := 16) S.1 S.2.1 dJ0_charAt_5068e_4 (by decide) (fun c_4 => absurd c_4 (by decide)) (fun c_4 => ?_)
  refine lv_aload_n S.1 S.2.1 dJ0_charAt_5068e_7 rfl (lv_at hl 0 rfl) ?_
  refine vk_getf S.1 S.2.1 (show va_OF "java/lang/String" "value" "[B" (.ref (sq 21)) (sq 11) A s s.heap from (hT.2.2.2.2.2.2.2.1 1 (by decide)).2.2.1) hS S.2.2.2.1 (S.2.2.2.2 (.fieldLink RJ0 9 "java/lang/String" "value" "[B") (by decide +kernel)) (fun _ h => h) dJ0_charAt_5068e_8 ?_
  refine lv_iload_n S.1 S.2.1 dJ0_charAt_5068e_11 rfl (lv_at hl 1 rfl) ?_
  refine b_ai (wr := []) (b_runS (As := [.ref (sq 21), .int i]) (s_J1_charAt_3b067_1 l D cI cZ cC cS sq H.size i (by first | with_reducible assumption | decide | (and_intros <;> first | with_reducible assumption | (intros; refine Int.le_antisymm ?_ ?_ <;> omega) | omega) | assumption | (rw [show Int32.toInt 0 = 0 from rfl]; omega))) S gJ0_charAt_5068e_J1_charAt_3b067 rfl hdS_J1_charAt_3b067 ⟨Nat.le_of_ble_eq_true rfl, Nat.le_of_ble_eq_true rfl⟩ ⟨Nat.le_of_ble_eq_true rfl, Nat.le_of_ble_eq_true rfl⟩ hK hT hS hA hP hD [] rfl (by decide) rfl hl.1 rfl (Nat.le_of_ble_eq_true rfl) dJ0_charAt_5068e_12) hP hD hS hA [] [] rfl rfl (by decide) (by decide) (fun r_5 w_6 H locs hw_7 hP hD hS => ?_)
  obtain ⟨hf_8, rfl⟩ := hw_7
  exact b_nret (ty := .char) S.1 S.2.1 X.2.1 X.2.2.1 (chN (chG (k := 1) (n := 5) (by decide) rfl hi.1 hi.2 (by first | with_reducible assumption | assumption)).2) hP hD hS ⟨(by first | with_reducible assumption | assumption | omega | decide | (rw [show Int32.toInt 0 = 0 from rfl]; omega)), rfl⟩ dJ0_charAt_5068e_15
set_option maxHeartbeats 4000000 in
set_option maxRecDepth 100000 in
theorem lp_isWord1 {p : Program} (l : Launch) {e : Env} {s : State} {m : MethodId} {below : List Frame} {meth : Method} {c : Code} (D : va_G) (cI cZ cC cS : ClassId) (sq : Nat → Nat) (tp : Nat) (by_ : Nat) (tz : Int32) (ts : Int32) (ta : Int32) (tb : Int32) (tv : Int32) (f : Nat → Int32) (a0 : Int) (hrg_f : rng f 400 (0) (255)) (hz : 0 ≤ tz.toInt ∧ tz.toInt ≤ 400) (ht1 : 0 ≤ ta.toInt ∧ ta.toInt ≤ tb.toInt ∧ tb.toInt ≤ tz.toInt) (ht3 : tok (tx f tz.toInt) a0 ts.toInt ta.toInt tb.toInt tv.toInt) (hln : tb.toInt - ta.toInt = 5) {A : Nat → Prop} (X : bX p s m meth c cX5_isWord 3 wsX5_isWord yX5_isWord (some .boolean) [.ref tp, .ref (sq 11)]) (hK : kW D (tyW cI cZ cC cS) sq s) (hT : sT sq A s s.heap) (hA : ∀ q, s.heap.size ≤ q → A q) (K : ∀ (i : Int32), (rng f 400 (0) (255)) → (0 ≤ i.toInt ∧ i.toInt ≤ 5) → (mtw (tx f tz.toInt) a0 1 i.toInt) → (5 ≤ i.toInt) → ∀ (H : Heap) (locs : List Loc) (ls : Array Slot), va_P D vwCl [(tp, .inr (5, [.ref by_, .int tz, .int ts, .int ta, .int tb, .int tv])), (by_, .inl (cI, 400, .inl f))] H → va_D A [(tp, .inr (5, [.ref by_, .int tz, .int ts, .int ta, .int tb, .int tv])), (by_, .inl (cI, 400, .inl f))] → va_S A s.heap H locs → lv_has ls 3 [(2, .int i), (0, .ref tp), (1, .ref (sq 11))] → W p l e (rmW 4 160 0 0) s m ([.ref tp, .ref (sq 11)] : List Value).toArray below meth c H locs 0 0 (MQ below (va_Qi (fun r w => ((tNm (tx f tz.toInt) a0 = wC 1) ∧ r = 1 ∧ w = [(tp, .inr (5, [.ref by_, .int tz, .int ts, .int ta, .int tb, .int tv])), (by_, .inl (cI, 400, .inl f))]) ∨ ((¬ tNm (tx f tz.toInt) a0 = wC 1) ∧ r = 0 ∧ w = [(tp, .inr (5, [.ref by_, .int tz, .int ts, .int ta, .int tb, .int tv])), (by_, .inl (cI, 400, .inl f))])) (wD D A) A) ([.ref tp, .ref (sq 11)] : List Value).toArray s 0 0 A) (F0 m 58 ls [])) : ∀ (mN : Nat) (i : Int32), (rng f 400 (0) (255)) → (0 ≤ i.toInt ∧ i.toInt ≤ 5) → (mtw (tx f tz.toInt) a0 1 i.toInt) → ((5 - i.toInt).toNat < mN) → ∀ (H : Heap) (locs : List Loc) (ls : Array Slot), va_P D vwCl [(tp, .inr (5, [.ref by_, .int tz, .int ts, .int ta, .int tb, .int tv])), (by_, .inl (cI, 400, .inl f))] H → va_D A [(tp, .inr (5, [.ref by_, .int tz, .int ts, .int ta, .int tb, .int tv])), (by_, .inl (cI, 400, .inl f))] → va_S A s.heap H locs → lv_has ls 3 [(2, .int i), (0, .ref tp), (1, .ref (sq 11))] → W p l e (rmW 4 160 0 0) s m ([.ref tp, .ref (sq 11)] : List Value).toArray below meth c H locs 0 0 (MQ below (va_Qi (fun r w => ((tNm (tx f tz.toInt) a0 = wC 1) ∧ r = 1 ∧ w = [(tp, .inr (5, [.ref by_, .int tz, .int ts, .int ta, .int tb, .int tv])), (by_, .inl (cI, 400, .inl f))]) ∨ ((¬ tNm (tx f tz.toInt) a0 = wC 1) ∧ r = 0 ∧ w = [(tp, .inr (5, [.ref by_, .int tz, .int ts, .int ta, .int tb, .int tv])), (by_, .inl (cI, 400, .inl f))])) (wD D A) A) ([.ref tp, .ref (sq 11)] : List Value).toArray s 0 0 A) (F0 m 23 ls []) := by
  have S : CallFix p m c cX5_isWord 3 s ([.ref tp, .ref (sq 11)] : List Value).toArray wsX5_isWord RX5 := X.1
  have iX5 := jX5_isWord_X5
  intro mN
  induction mN with
  | zero => intro i hrg_f hi hmt hm; exact absurd hm (Nat.not_lt_zero _)
  | succ mN ih =>
    intro i hrg_f hi hmt hm H locs ls hP hD hS hl
    refine lv_iload_n S.1 S.2.1 dX5_isWord_23 rfl (lv_at hl 0 rfl) ?_
    refine lv_aload_n S.1 S.2.1 dX5_isWord_24 rfl (lv_at hl 2 rfl) ?_
    refine b_ai (wr := [(tp, .inr (5, [.ref by_, .int tz, .int ts, .int ta, .int tb, .int tv])), (by_, .inl (cI, 400, .inl f))]) (b_runT (wi := 1) (As := []) (by decide) (s_J0_length_8abf5_1 l D cI cZ cC cS sq H.size ) S gX5_isWord_J0_length_8abf5 rfl hdV_J0_length_8abf5 ⟨Nat.le_of_ble_eq_true rfl, Nat.le_of_ble_eq_true rfl⟩ ⟨Nat.le_of_ble_eq_true rfl, Nat.le_of_ble_eq_true rfl⟩ hK hT hS hA hP hD [] rfl (by decide) rfl hl.1 rfl (Nat.le_of_ble_eq_true rfl) dX5_isWord_25) hP hD hS hA [] [0, 1] rfl rfl (by decide) (by decide) (fun r_101 w_102 H locs hw_103 hP hD hS => ?_)
    obtain ⟨rfl, rfl⟩ := hw_103
    have hP : va_P D vwCl [(tp, .inr (5, [.ref by_, .int tz, .int ts, .int ta, .int tb, .int tv])), (by_, .inl (cI, 400, .inl f))] H := hP
    have hD : va_D A [(tp, .inr (5, [.ref by_, .int tz, .int ts, .int ta, .int tb, .int tv])), (by_, .inl (cI, 400, .inl f))] := hD
    refine lv_icmp_ge (tgt := 58) S.1 S.2.1 dX5_isWord_28 (by decide) (fun c_104 => ?_) (fun c_104 => ?_)
    · rw [le2 (a := 5) (b := i) (A := 5) (B := i.toInt) rfl rfl] at c_104
      exact K i (by first | with_reducible assumption | assumption | omega | decide | (rw [show Int32.toInt 0 = 0 from rfl]; omega)) (by first | with_reducible assumption | decide | (and_intros <;> first | with_reducible assumption | (intros; refine Int.le_antisymm ?_ ?_ <;> omega) | omega) | assumption | (rw [show Int32.toInt 0 = 0 from rfl]; omega)) (by first | assumption | exact mtw_st hmt (by first | with_reducible assumption | assumption) (by have y := ht3.1; omega) (by first | (and_intros <;> first | with_reducible assumption | (refine Int.le_antisymm ?_ ?_ <;> omega) | omega) | omega) (by first | (and_intros <;> first | with_reducible assumption | (refine Int.le_antisymm ?_ ?_ <;> omega) | omega) | omega) (by first | with_reducible assumption | assumption) (by first | (and_intros <;> first | with_reducible assumption | (refine Int.le_antisymm ?_ ?_ <;> omega) | omega) | omega)) (by first | with_reducible assumption | decide | (and_intros <;> first | with_reducible assumption | (intros; refine Int.le_antisymm ?_ ?_ <;> omega) | omega) | assumption | (rw [show Int32.toInt 0 = 0 from rfl]; omega)) H _ ls hP hD hS (lv_sub hl [0, 1, 2] rfl)
    · rw [le2 (a := 5) (b := i) (A := 5) (B := i.toInt) rfl rfl] at c_104
      refine lv_aload_n S.1 S.2.1 dX5_isWord_31 rfl (lv_at hl 1 rfl) ?_
      refine b_get (v := .ref by_) S iX5 hK hP 0 rfl rfl 0 (by decide) (by decide +kernel) rfl dX5_isWord_32 ?_
      refine lv_aload_n S.1 S.2.1 dX5_isWord_35 rfl (lv_at hl 1 rfl) ?_
      refine b_get (v := .int ta) S iX5 hK hP 0 rfl rfl 3 (by decide) (by decide +kernel) rfl dX5_isWord_36 ?_
      refine lv_iload_n S.1 S.2.1 dX5_isWord_39 rfl (lv_at hl 0 rfl) ?_
      refine lv_iadd S.1 S.2.1 dX5_isWord_40 ?_
      refine lv_topi (fun x_105 ex_105 => ?_)
      have tx_105 : x_105.toInt = ta.toInt + (i.toInt) := addI (A := ta.toInt) (B := i.toInt) ex_105 rfl rfl (by  omega) (by  omega)
      have hin_106 : vp_in x_105 400 := (in_of (n := 400) (by  omega) (by  omega))
      refine va_iald S.1 S.2.1 hK.1 hP 1 0 rfl rfl hin_106 dX5_isWord_41 ?_
      refine lv_topi (fun x_107 ex_107 => ?_)
      have tx_107 := rng_get (x := x_107) (show rng f 400 (0) (255) by assumption) hin_106 ex_107
      have qx_107 := tx_get (n := tz.toInt) (i := x_105) (by first | (and_intros <;> first | with_reducible assumption | (refine Int.le_antisymm ?_ ?_ <;> omega) | omega) | omega) (by first | (and_intros <;> first | with_reducible assumption | (refine Int.le_antisymm ?_ ?_ <;> omega) | omega) | omega) ex_107
      refine lv_aload_n S.1 S.2.1 dX5_isWord_42 rfl (lv_at hl 2 rfl) ?_
      refine lv_iload_n S.1 S.2.1 dX5_isWord_43 rfl (lv_at hl 0 rfl) ?_
      refine b_ai (wr := [(tp, .inr (5, [.ref by_, .int tz, .int ts, .int ta, .int tb, .int tv])), (by_, .inl (cI, 400, .inl f))]) (b_runT (wi := 1) (As := [.int i]) (by decide) (s_J0_charAt_5068e_1 l D cI cZ cC cS sq H.size i (by first | with_reducible assumption | decide | (and_intros <;> first | with_reducible assumption | (intros; refine Int.le_antisymm ?_ ?_ <;> omega) | omega) | assumption | (rw [show Int32.toInt 0 = 0 from rfl]; omega))) S gX5_isWord_J0_charAt_5068e rfl hdV_J0_charAt_5068e ⟨Nat.le_of_ble_eq_true rfl, Nat.le_of_ble_eq_true rfl⟩ ⟨Nat.le_of_ble_eq_true rfl, Nat.le_of_ble_eq_true rfl⟩ hK hT hS hA hP hD [] rfl (by decide) rfl hl.1 rfl (Nat.le_of_ble_eq_true rfl) dX5_isWord_44) hP hD hS hA [] [0, 1] rfl rfl (by decide) (by decide) (fun r_108 w_109 H locs hw_110 hP hD hS => ?_)
      obtain ⟨hf_111, rfl⟩ := hw_110
      have hP : va_P D vwCl [(tp, .inr (5, [.ref by_, .int tz, .int ts, .int ta, .int tb, .int tv])), (by_, .inl (cI, 400, .inl f))] H := hP
      have hD : va_D A [(tp, .inr (5, [.ref by_, .int tz, .int ts, .int ta, .int tb, .int tv])), (by_, .inl (cI, 400, .inl f))] := hD
      refine lv_icmp_eq (tgt := 52) S.1 S.2.1 dX5_isWord_47 (by decide) (fun c_112 => ?_) (fun c_112 => ?_)
      · rw [eq2 (a := x_107) (b := r_108) (A := x_107.toInt) (B := r_108.toInt) rfl rfl] at c_112
        obtain ⟨x_113, ex_113⟩ : ∃ y : Int32, y = i + Int32.ofInt (1) := ⟨_, rfl⟩
        refine lv_iinc (v := x_113) (lv' := [(2, .int x_113), (0, .ref tp), (1, .ref (sq 11))]) S.1 S.2.1 dX5_isWord_52 hl (k := 0) rfl ex_113.symm (by decide) rfl (fun ls hl => ?_)
        have tx_113 : x_113.toInt = i.toInt + (1) := addI (A := i.toInt) (B := 1) ex_113 rfl rfl (by  omega) (by  omega)
        refine lv_goto (tgt := 23) S.1 S.2.1 dX5_isWord_55 (by decide) ?_
        exact ih x_113 (by first | with_reducible assumption | assumption | omega | decide | (rw [show Int32.toInt 0 = 0 from rfl]; omega)) (by first | with_reducible assumption | decide | (and_intros <;> first | with_reducible assumption | (intros; refine Int.le_antisymm ?_ ?_ <;> omega) | omega) | assumption | (rw [show Int32.toInt 0 = 0 from rfl]; omega)) (by first | assumption | exact mtw_st hmt (by first | with_reducible assumption | assumption) (by have y := ht3.1; omega) (by first | (and_intros <;> first | with_reducible assumption | (refine Int.le_antisymm ?_ ?_ <;> omega) | omega) | omega) (by first | (and_intros <;> first | with_reducible assumption | (refine Int.le_antisymm ?_ ?_ <;> omega) | omega) | omega) (by first | with_reducible assumption | assumption) (by first | (and_intros <;> first | with_reducible assumption | (refine Int.le_antisymm ?_ ?_ <;> omega) | omega) | omega)) (by first | (and_intros <;> first | with_reducible assumption | (refine Int.le_antisymm ?_ ?_ <;> omega) | omega) | omega) H _ ls hP hD hS (lv_sub hl [0, 1, 2] rfl)
      · rw [eq2 (a := x_107) (b := r_108) (A := x_107.toInt) (B := r_108.toInt) rfl rfl] at c_112
        refine lv_iconst (v := (0)) S.1 S.2.1 dX5_isWord_50 (by decide) ?_
        exact b_zret S.1 S.2.1 X.2.1 X.2.2.1 rfl hP hD hS (Or.inr (⟨(fun q => by have z := wn_1 q; have y1 := ht3.2.1; have y2 := ht3.2.2.1; have y3 := ht3.1; first | omega | exact mtw_no (i := i) z.2.2 (by first | with_reducible assumption | assumption) (by first | (and_intros <;> first | with_reducible assumption | (refine Int.le_antisymm ?_ ?_ <;> omega) | omega) | omega) (by first | (and_intros <;> first | with_reducible assumption | (refine Int.le_antisymm ?_ ?_ <;> omega) | omega) | omega) (by first | (and_intros <;> first | with_reducible assumption | (refine Int.le_antisymm ?_ ?_ <;> omega) | omega) | omega) (by first | with_reducible assumption | assumption) (by first | (and_intros <;> first | with_reducible assumption | (refine Int.le_antisymm ?_ ?_ <;> omega) | omega) | omega)), rfl, rfl⟩)) dX5_isWord_51
set_option maxHeartbeats 4000000 in
set_option maxRecDepth 100000 in
theorem s_X5_isWord_1 (l : Launch) (D : va_G) (cI cZ cC cS : ClassId) (sq : Nat → Nat) (sz : Nat) (tp : Nat) (by_ : Nat) (tz : Int32) (ts : Int32) (ta : Int32) (tb : Int32) (tv : Int32) (f : Nat → Int32) (a0 : Int) (hrg_f : rng f 400 (0) (255)) (hz : 0 ≤ tz.toInt ∧ tz.toInt ≤ 400) (ht1 : 0 ≤ ta.toInt ∧ ta.toInt ≤ tb.toInt ∧ tb.toInt ≤ tz.toInt) (ht3 : tok (tx f tz.toInt) a0 ts.toInt ta.toInt tb.toInt tv.toInt) : mI l yX5_isWord wsX5_isWord 4 160 D (tyW cI cZ cC cS) sq [(tp, .inr (5, [.ref by_, .int tz, .int ts, .int ta, .int tb, .int tv])), (by_, .inl (cI, 400, .inl f))] sz [.ref tp, .ref (sq 11)] (fun r w => ((tNm (tx f tz.toInt) a0 = wC 1) ∧ r = 1 ∧ w = [(tp, .inr (5, [.ref by_, .int tz, .int ts, .int ta, .int tb, .int tv])), (by_, .inl (cI, 400, .inl f))]) ∨ ((¬ tNm (tx f tz.toInt) a0 = wC 1) ∧ r = 0 ∧ w = [(tp, .inr (5, [.ref by_, .int tz, .int ts, .int ta, .int tb, .int tv])), (by_, .inl (cI, 400, .inl f))])) := by
  refine b_metI (cc := cX5_isWord) (maxL := 3) (ret := (some .boolean)) (by decide) rfl (Nat.le_of_ble_eq_true rfl) ?_
  intro p e s m below meth c ls A H X hsz hP hK hT hD hA hS hl
  have S : CallFix p m c cX5_isWord 3 s ([.ref tp, .ref (sq 11)] : List Value).toArray wsX5_isWord RX5 := X.1
  have hl : lv_has ls 3 [(0, .ref tp), (1, .ref (sq 11))] := hl
  have iX5 := jX5_isWord_X5
  refine lv_aload_n S.1 S.2.1 dX5_isWord_0 rfl (lv_at hl 0 rfl) ?_
  refine b_get (v := .int ts) S iX5 hK hP 0 rfl rfl 2 (by decide) (by decide +kernel) rfl dX5_isWord_1 ?_
  refine lv_iconst (v := (1)) S.1 S.2.1 dX5_isWord_4 (by decide) ?_
  refine lv_icmp_ne (tgt := 19) S.1 S.2.1 dX5_isWord_5 (by decide) (fun c_1 => ?_) (fun c_1 => ?_)
  · rw [eq2 (a := ts) (b := 1) (A := ts.toInt) (B := 1) rfl rfl] at c_1
    refine lv_iconst (v := (0)) S.1 S.2.1 dX5_isWord_19 (by decide) ?_
    exact b_zret S.1 S.2.1 X.2.1 X.2.2.1 rfl hP hD hS (Or.inr (⟨(fun q => by have z := wn_1 q; have y1 := ht3.2.1; have y2 := ht3.2.2.1; have y3 := ht3.1; first | omega | exact mtw_no (i := i) z.2.2 (by first | with_reducible assumption | assumption) (by first | (and_intros <;> first | with_reducible assumption | (refine Int.le_antisymm ?_ ?_ <;> omega) | omega) | omega) (by first | (and_intros <;> first | with_reducible assumption | (refine Int.le_antisymm ?_ ?_ <;> omega) | omega) | omega) (by first | (and_intros <;> first | with_reducible assumption | (refine Int.le_antisymm ?_ ?_ <;> omega) | omega) | omega) (by first | with_reducible assumption | assumption) (by first | (and_intros <;> first | with_reducible assumption | (refine Int.le_antisymm ?_ ?_ <;> omega) | omega) | omega)), rfl, rfl⟩)) dX5_isWord_20
  · rw [eq2 (a := ts) (b := 1) (A := ts.toInt) (B := 1) rfl rfl] at c_1
    refine lv_aload_n S.1 S.2.1 dX5_isWord_8 rfl (lv_at hl 0 rfl) ?_
    refine b_ai (wr := [(by_, .inl (cI, 400, .inl f))]) (b_runV (q0 := 0) (ci := 5) (As := []) (s_X5_length l D cI cZ cC cS sq H.size tp by_ tz ts ta tb tv (by first | with_reducible assumption | decide | (and_intros <;> first | with_reducible assumption | (intros; refine Int.le_antisymm ?_ ?_ <;> omega) | omega) | assumption | (rw [show Int32.toInt 0 = 0 from rfl]; omega))) S gX5_isWord_X5_length rfl hdV_X5_length ⟨Nat.le_of_ble_eq_true rfl, Nat.le_of_ble_eq_true rfl⟩ ⟨Nat.le_of_ble_eq_true rfl, Nat.le_of_ble_eq_true rfl⟩ hK hT hS hA hP hD rfl rfl [0] rfl (by decide) rfl hl.1 rfl (Nat.le_of_ble_eq_true rfl) dX5_isWord_9) hP hD hS hA [0] [1] rfl rfl (by decide) (by decide) (fun r_2 w_3 H locs hw_4 hP hD hS => ?_)
    obtain ⟨hf_5, rfl⟩ := hw_4
    have hP : va_P D vwCl [(by_, .inl (cI, 400, .inl f)), (tp, .inr (5, [.ref by_, .int tz, .int ts, .int ta, .int tb, .int tv]))] H := hP
    have hD : va_D A [(by_, .inl (cI, 400, .inl f)), (tp, .inr (5, [.ref by_, .int tz, .int ts, .int ta, .int tb, .int tv]))] := hD
    refine lv_aload_n S.1 S.2.1 dX5_isWord_12 rfl (lv_at hl 1 rfl) ?_
    refine b_ai (wr := [(by_, .inl (cI, 400, .inl f)), (tp, .inr (5, [.ref by_, .int tz, .int ts, .int ta, .int tb, .int tv]))]) (b_runT (wi := 1) (As := []) (by decide) (s_J0_length_8abf5_1 l D cI cZ cC cS sq H.size ) S gX5_isWord_J0_length_8abf5 rfl hdV_J0_length_8abf5 ⟨Nat.le_of_ble_eq_true rfl, Nat.le_of_ble_eq_true rfl⟩ ⟨Nat.le_of_ble_eq_true rfl, Nat.le_of_ble_eq_true rfl⟩ hK hT hS hA hP hD [] rfl (by decide) rfl hl.1 rfl (Nat.le_of_ble_eq_true rfl) dX5_isWord_13) hP hD hS hA [] [0, 1] rfl rfl (by decide) (by decide) (fun r_6 w_7 H locs hw_8 hP hD hS => ?_)
    obtain ⟨rfl, rfl⟩ := hw_8
    have hP : va_P D vwCl [(by_, .inl (cI, 400, .inl f)), (tp, .inr (5, [.ref by_, .int tz, .int ts, .int ta, .int tb, .int tv]))] H := hP
    have hD : va_D A [(by_, .inl (cI, 400, .inl f)), (tp, .inr (5, [.ref by_, .int tz, .int ts, .int ta, .int tb, .int tv]))] := hD
    refine lv_icmp_eq (tgt := 21) S.1 S.2.1 dX5_isWord_16 (by decide) (fun c_9 => ?_) (fun c_9 => ?_)
    · rw [eq2 (a := r_2) (b := 5) (A := r_2.toInt) (B := 5) rfl rfl] at c_9
      refine lv_iconst (v := (0)) S.1 S.2.1 dX5_isWord_21 (by decide) ?_
      refine lv_istore_n (lv' := [(2, .int 0), (0, .ref tp), (1, .ref (sq 11))]) S.1 S.2.1 dX5_isWord_22 rfl hl (by decide) rfl (fun ls hl => ?_)
      have hP := hP.sub (ws' := [(tp, .inr (5, [.ref by_, .int tz, .int ts, .int ta, .int tb, .int tv])), (by_, .inl (cI, 400, .inl f))]) [1, 0] rfl
      have hD := hD.sub (ws' := [(tp, .inr (5, [.ref by_, .int tz, .int ts, .int ta, .int tb, .int tv])), (by_, .inl (cI, 400, .inl f))]) [1, 0] (by decide) rfl
      refine lp_isWord1 l D cI cZ cC cS sq tp by_ tz ts ta tb tv f a0 hrg_f hz ht1 ht3 (by first | with_reducible assumption | decide | (and_intros <;> first | with_reducible assumption | (intros; refine Int.le_antisymm ?_ ?_ <;> omega) | omega) | assumption | (rw [show Int32.toInt 0 = 0 from rfl]; omega)) X hK hT hA (fun i_10 hi_11 hi_12 hi_13 hi_14 H locs ls hP hD hS hl => ?_) _ (0) (by first | with_reducible assumption | assumption | omega | decide | (rw [show Int32.toInt 0 = 0 from rfl]; omega)) (by first | with_reducible assumption | decide | (and_intros <;> first | with_reducible assumption | (intros; refine Int.le_antisymm ?_ ?_ <;> omega) | omega) | assumption | (rw [show Int32.toInt 0 = 0 from rfl]; omega)) (mtw_0 (by decide)) (Nat.lt_succ_self _) H _ ls hP hD hS (lv_sub hl [0, 1, 2] rfl)
      refine lv_iconst (v := (1)) S.1 S.2.1 dX5_isWord_58 (by decide) ?_
      exact b_zret S.1 S.2.1 X.2.1 X.2.2.1 rfl hP hD hS (Or.inl ⟨(wy_1 (tok_k ht3 (by first | with_reducible assumption | assumption)) (by have z := ht3.2.2.1; have y := ht3.1; omega) (mtw_sub (by first | with_reducible assumption | assumption) (by first | (and_intros <;> first | with_reducible assumption | (refine Int.le_antisymm ?_ ?_ <;> omega) | omega) | omega))), rfl, rfl⟩) dX5_isWord_59
    · rw [eq2 (a := r_2) (b := 5) (A := r_2.toInt) (B := 5) rfl rfl] at c_9
      refine lv_iconst (v := (0)) S.1 S.2.1 dX5_isWord_19 (by decide) ?_
      have hP := hP.sub (ws' := [(tp, .inr (5, [.ref by_, .int tz, .int ts, .int ta, .int tb, .int tv])), (by_, .inl (cI, 400, .inl f))]) [1, 0] rfl
      have hD := hD.sub (ws' := [(tp, .inr (5, [.ref by_, .int tz, .int ts, .int ta, .int tb, .int tv])), (by_, .inl (cI, 400, .inl f))]) [1, 0] (by decide) rfl
      exact b_zret S.1 S.2.1 X.2.1 X.2.2.1 rfl hP hD hS (Or.inr (⟨(fun q => by have z := wn_1 q; have y1 := ht3.2.1; have y2 := ht3.2.2.1; have y3 := ht3.1; first | omega | exact mtw_no (i := i) z.2.2 (by first | with_reducible assumption | assumption) (by first | (and_intros <;> first | with_reducible assumption | (refine Int.le_antisymm ?_ ?_ <;> omega) | omega) | omega) (by first | (and_intros <;> first | with_reducible assumption | (refine Int.le_antisymm ?_ ?_ <;> omega) | omega) | omega) (by first | (and_intros <;> first | with_reducible assumption | (refine Int.le_antisymm ?_ ?_ <;> omega) | omega) | omega) (by first | with_reducible assumption | assumption) (by first | (and_intros <;> first | with_reducible assumption | (refine Int.le_antisymm ?_ ?_ <;> omega) | omega) | omega)), rfl, rfl⟩)) dX5_isWord_20
set_option maxHeartbeats 4000000 in
set_option maxRecDepth 100000 in
theorem s_J0_coder_7d493_2 (l : Launch) (D : va_G) (cI cZ cC cS : ClassId) (sq : Nat → Nat) (sz : Nat)  : mI l yJ0_coder_7d493 wsJ0_coder_7d493 0 0 D (tyW cI cZ cC cS) sq [] sz [.ref (sq 12)] (fun r w => (r = 0 ∧ w = [])) := by
  refine b_metI (cc := cJ0_coder_7d493) (maxL := 1) (ret := (some .byte)) (by decide) rfl (Nat.le_of_ble_eq_true rfl) ?_
  intro p e s m below meth c ls A H X hsz hP hK hT hD hA hS hl
  have S : CallFix p m c cJ0_coder_7d493 1 s ([.ref (sq 12)] : List Value).toArray wsJ0_coder_7d493 RJ0 := X.1
  have hl : lv_has ls 1 [(0, .ref (sq 12))] := hl
  refine va_gets (C := "java/lang/String") S.1 S.2.1 hT.2.2.2.2.2.1 hS S.2.2.2.1 (S.2.2.2.2 (.fieldLink RJ0 38 "java/lang/String" "COMPACT_STRINGS" "Z") (by decide +kernel)) (fun _ h => h) dJ0_coder_7d493_0 ?_
  refine lv_if_eq (tgt := 13) S.1 S.2.1 dJ0_coder_7d493_3 (by decide) (fun c_1 => absurd c_1 (by decide)) (fun c_1 => ?_)
  refine lv_aload_n S.1 S.2.1 dJ0_coder_7d493_6 rfl (lv_at hl 0 rfl) ?_
  refine vk_getf S.1 S.2.1 (show va_OF "java/lang/String" "coder" "B" (.int 0) (sq 12) A s s.heap from (hT.2.2.2.2.2.2.2.1 2 (by decide)).2.1) hS S.2.2.2.1 (S.2.2.2.2 (.fieldLink RJ0 15 "java/lang/String" "coder" "B") (by decide +kernel)) (fun _ h => h) dJ0_coder_7d493_7 ?_
  refine lv_goto (tgt := 14) S.1 S.2.1 dJ0_coder_7d493_10 (by decide) ?_
  exact b_nret (ty := .byte) S.1 S.2.1 X.2.1 X.2.2.1 rfl hP hD hS ⟨rfl, rfl⟩ dJ0_coder_7d493_14
set_option maxHeartbeats 4000000 in
set_option maxRecDepth 100000 in
theorem s_J0_length_8abf5_2 (l : Launch) (D : va_G) (cI cZ cC cS : ClassId) (sq : Nat → Nat) (sz : Nat)  : mI l yJ0_length_8abf5 wsJ0_length_8abf5 1 40 D (tyW cI cZ cC cS) sq [] sz [.ref (sq 12)] (fun r w => (r = 4 ∧ w = [])) := by
  refine b_metI (cc := cJ0_length_8abf5) (maxL := 1) (ret := (some .int)) (by decide) rfl (Nat.le_of_ble_eq_true rfl) ?_
  intro p e s m below meth c ls A H X hsz hP hK hT hD hA hS hl
  have S : CallFix p m c cJ0_length_8abf5 1 s ([.ref (sq 12)] : List Value).toArray wsJ0_length_8abf5 RJ0 := X.1
  have hl : lv_has ls 1 [(0, .ref (sq 12))] := hl
  refine lv_aload_n S.1 S.2.1 dJ0_length_8abf5_0 rfl (lv_at hl 0 rfl) ?_
  refine vk_getf S.1 S.2.1 (show va_OF "java/lang/String" "value" "[B" (.ref (sq 22)) (sq 12) A s s.heap from (hT.2.2.2.2.2.2.2.1 2 (by decide)).2.2.1) hS S.2.2.2.1 (S.2.2.2.2 (.fieldLink RJ0 9 "java/lang/String" "value" "[B") (by decide +kernel)) (fun _ h => h) dJ0_length_8abf5_1 ?_
  refine va_tlen (v := 4) S.1 S.2.1 (show va_T .byte (sq 22) 4 (fun j => .int ((wordB.getD 2 []).getD j 0)) A s s.heap from (hT.2.2.2.2.2.2.2.1 2 (by decide)).2.2.2) hS rfl dJ0_length_8abf5_4 ?_
  refine lv_aload_n S.1 S.2.1 dJ0_length_8abf5_5 rfl (lv_at hl 0 rfl) ?_
  refine b_ai (wr := []) (b_runT (wi := 2) (As := []) (by decide) (s_J0_coder_7d493_2 l D cI cZ cC cS sq H.size ) S gJ0_length_8abf5_J0_coder_7d493 rfl hdV_J0_coder_7d493 ⟨Nat.le_of_ble_eq_true rfl, Nat.le_of_ble_eq_true rfl⟩ ⟨Nat.le_of_ble_eq_true rfl, Nat.le_of_ble_eq_true rfl⟩ hK hT hS hA hP hD [] rfl (by decide) rfl hl.1 rfl (Nat.le_of_ble_eq_true rfl) dJ0_length_8abf5_6) hP hD hS hA [] [] rfl rfl (by decide) (by decide) (fun r_1 w_2 H locs hw_3 hP hD hS => ?_)
  obtain ⟨rfl, rfl⟩ := hw_3
  refine lv_ishr S.1 S.2.1 dJ0_length_8abf5_9 ?_
  refine lv_topi (fun x_4 ex_4 => ?_)
  have ex_4 : x_4 = 4 := by rw [ex_4]; decide
  subst ex_4
  exact b_iret S.1 S.2.1 X.2.1 X.2.2.1 hP hD hS ⟨rfl, rfl⟩ dJ0_length_8abf5_10
set_option maxHeartbeats 4000000 in
set_option maxRecDepth 100000 in
theorem s_J0_isLatin1_aae02_2 (l : Launch) (D : va_G) (cI cZ cC cS : ClassId) (sq : Nat → Nat) (sz : Nat)  : mI l yJ0_isLatin1_aae02 wsJ0_isLatin1_aae02 0 0 D (tyW cI cZ cC cS) sq [] sz [.ref (sq 12)] (fun r w => (r = 1 ∧ w = [])) := by
  refine b_metI (cc := cJ0_isLatin1_aae02) (maxL := 1) (ret := (some .boolean)) (by decide) rfl (Nat.le_of_ble_eq_true rfl) ?_
  intro p e s m below meth c ls A H X hsz hP hK hT hD hA hS hl
  have S : CallFix p m c cJ0_isLatin1_aae02 1 s ([.ref (sq 12)] : List Value).toArray wsJ0_isLatin1_aae02 RJ0 := X.1
  have hl : lv_has ls 1 [(0, .ref (sq 12))] := hl
  refine va_gets (C := "java/lang/String") S.1 S.2.1 hT.2.2.2.2.2.1 hS S.2.2.2.1 (S.2.2.2.2 (.fieldLink RJ0 38 "java/lang/String" "COMPACT_STRINGS" "Z") (by decide +kernel)) (fun _ h => h) dJ0_isLatin1_aae02_0 ?_
  refine lv_if_eq (tgt := 17) S.1 S.2.1 dJ0_isLatin1_aae02_3 (by decide) (fun c_1 => absurd c_1 (by decide)) (fun c_1 => ?_)
  refine lv_aload_n S.1 S.2.1 dJ0_isLatin1_aae02_6 rfl (lv_at hl 0 rfl) ?_
  refine vk_getf S.1 S.2.1 (show va_OF "java/lang/String" "coder" "B" (.int 0) (sq 12) A s s.heap from (hT.2.2.2.2.2.2.2.1 2 (by decide)).2.1) hS S.2.2.2.1 (S.2.2.2.2 (.fieldLink RJ0 15 "java/lang/String" "coder" "B") (by decide +kernel)) (fun _ h => h) dJ0_isLatin1_aae02_7 ?_
  refine lv_if_ne (tgt := 17) S.1 S.2.1 dJ0_isLatin1_aae02_10 (by decide) (fun c_2 => absurd c_2 (by decide)) (fun c_2 => ?_)
  refine lv_iconst (v := (1)) S.1 S.2.1 dJ0_isLatin1_aae02_13 (by decide) ?_
  refine lv_goto (tgt := 18) S.1 S.2.1 dJ0_isLatin1_aae02_14 (by decide) ?_
  exact b_zret S.1 S.2.1 X.2.1 X.2.2.1 rfl hP hD hS ⟨rfl, rfl⟩ dJ0_isLatin1_aae02_18
set_option maxHeartbeats 4000000 in
set_option maxRecDepth 100000 in
theorem s_J1_charAt_3b067_2 (l : Launch) (D : va_G) (cI cZ cC cS : ClassId) (sq : Nat → Nat) (sz : Nat) (i : Int32) (hi : 0 ≤ i.toInt ∧ i.toInt < 4) : mI l yJ1_charAt_3b067 wsJ1_charAt_3b067 2 80 D (tyW cI cZ cC cS) sq [] sz [.ref (sq 22), .int i] (fun r w => ((r = (wordB.getD 2 []).getD i.toNatClampNeg 0) ∧ w = [])) := by
  refine b_metI (cc := cJ1_charAt_3b067) (maxL := 2) (ret := (some .char)) (by decide) rfl (Nat.le_of_ble_eq_true rfl) ?_
  intro p e s m below meth c ls A H X hsz hP hK hT hD hA hS hl
  have S : CallFix p m c cJ1_charAt_3b067 2 s ([.ref (sq 22), .int i] : List Value).toArray wsJ1_charAt_3b067 RJ1 := X.1
  have hl : lv_has ls 2 [(0, .ref (sq 22)), (1, .int i)] := hl
  refine lv_iload_n S.1 S.2.1 dJ1_charAt_3b067_0 rfl (lv_at hl 1 rfl) ?_
  refine lv_aload_n S.1 S.2.1 dJ1_charAt_3b067_1 rfl (lv_at hl 0 rfl) ?_
  refine va_tlen (v := 4) S.1 S.2.1 (show va_T .byte (sq 22) 4 (fun j => .int ((wordB.getD 2 []).getD j 0)) A s s.heap from (hT.2.2.2.2.2.2.2.1 2 (by decide)).2.2.2) hS rfl dJ1_charAt_3b067_2 ?_
  refine b_av (wr := []) (b_runS (As := [.int i, .int 4]) (s_J0_checkIndex_df160 l D cI cZ cC cS sq H.size i (4) (by first | with_reducible assumption | decide | (and_intros <;> first | with_reducible assumption | (intros; refine Int.le_antisymm ?_ ?_ <;> omega) | omega) | assumption | (rw [show Int32.toInt 0 = 0 from rfl]; omega))) S gJ1_charAt_3b067_J0_checkIndex_df160 rfl hdS_J0_checkIndex_df160 ⟨Nat.le_of_ble_eq_true rfl, Nat.le_of_ble_eq_true rfl⟩ ⟨Nat.le_of_ble_eq_true rfl, Nat.le_of_ble_eq_true rfl⟩ hK hT hS hA hP hD [] rfl (by decide) rfl hl.1 rfl (Nat.le_of_ble_eq_true rfl) dJ1_charAt_3b067_3) hP hD hS hA [] [] rfl rfl (by decide) (by decide) (fun w_2 H locs hw_3 hP hD hS => ?_)
  obtain rfl := hw_3
  refine lv_aload_n S.1 S.2.1 dJ1_charAt_3b067_6 rfl (lv_at hl 0 rfl) ?_
  refine lv_iload_n S.1 S.2.1 dJ1_charAt_3b067_7 rfl (lv_at hl 1 rfl) ?_
  refine va_tb (v := .int ((wordB.getD 2 []).getD i.toNatClampNeg 0)) S.1 S.2.1 (show va_T .byte (sq 22) 4 (fun j => .int ((wordB.getD 2 []).getD j 0)) A s s.heap from (hT.2.2.2.2.2.2.2.1 2 (by decide)).2.2.2) hS (in_of (n := 4) (by  omega) (by  omega)) rfl dJ1_charAt_3b067_8 ?_
  refine lv_topi (fun x_4 ex_4 => ?_)
  have gL := chG (k := 2) (n := 4) (by decide) rfl hi.1 hi.2 ex_4; have eL := ex_4
  refine lv_sipush (v := (255)) S.1 S.2.1 dJ1_charAt_3b067_9 (by decide) ?_
  refine lv_iand S.1 S.2.1 dJ1_charAt_3b067_12 ?_
  refine lv_topi (fun x_5 ex_5 => ?_)
  have eN := ex_5
  refine lv_i2c S.1 S.2.1 dJ1_charAt_3b067_13 rfl ?_
  refine lv_topi (fun x_6 ex_6 => ?_)
  have tL := (ex_6.trans (by rw [eN])).trans gL.1
  exact b_nret (ty := .char) S.1 S.2.1 X.2.1 X.2.2.1 (by rw [tL]; exact chN gL.2) hP hD hS ⟨(tL.trans eL), rfl⟩ dJ1_charAt_3b067_14
set_option maxHeartbeats 4000000 in
set_option maxRecDepth 100000 in
theorem s_J0_charAt_5068e_2 (l : Launch) (D : va_G) (cI cZ cC cS : ClassId) (sq : Nat → Nat) (sz : Nat) (i : Int32) (hi : 0 ≤ i.toInt ∧ i.toInt < 4) : mI l yJ0_charAt_5068e wsJ0_charAt_5068e 3 120 D (tyW cI cZ cC cS) sq [] sz [.ref (sq 12), .int i] (fun r w => ((r = (wordB.getD 2 []).getD i.toNatClampNeg 0) ∧ w = [])) := by
  refine b_metI (cc := cJ0_charAt_5068e) (maxL := 2) (ret := (some .char)) (by decide) rfl (Nat.le_of_ble_eq_true rfl) ?_
  intro p e s m below meth c ls A H X hsz hP hK hT hD hA hS hl
  have S : CallFix p m c cJ0_charAt_5068e 2 s ([.ref (sq 12), .int i] : List Value).toArray wsJ0_charAt_5068e RJ0 := X.1
  have hl : lv_has ls 2 [(0, .ref (sq 12)), (1, .int i)] := hl
  refine lv_aload_n S.1 S.2.1 dJ0_charAt_5068e_0 rfl (lv_at hl 0 rfl) ?_
  refine b_ai (wr := []) (b_runT (wi := 2) (As := []) (by decide) (s_J0_isLatin1_aae02_2 l D cI cZ cC cS sq H.size ) S gJ0_charAt_5068e_J0_isLatin1_aae02 rfl hdV_J0_isLatin1_aae02 ⟨Nat.le_of_ble_eq_true rfl, Nat.le_of_ble_eq_true rfl⟩ ⟨Nat.le_of_ble_eq_true rfl, Nat.le_of_ble_eq_true rfl⟩ hK hT hS hA hP hD [] rfl (by decide) rfl hl.1 rfl (Nat.le_of_ble_eq_true rfl) dJ0_charAt_5068e_1) hP hD hS hA [] [] rfl rfl (by decide) (by decide) (fun r_1 w_2 H locs hw_3 hP hD hS => ?_)
  obtain ⟨rfl, rfl⟩ := hw_3
  refine lv_if_eq (tgt := 16) S.1 S.2.1 dJ0_charAt_5068e_4 (by decide) (fun c_4 => absurd c_4 (by decide)) (fun c_4 => ?_)
  refine lv_aload_n S.1 S.2.1 dJ0_charAt_5068e_7 rfl (lv_at hl 0 rfl) ?_
  refine vk_getf S.1 S.2.1 (show va_OF "java/lang/String" "value" "[B" (.ref (sq 22)) (sq 12) A s s.heap from (hT.2.2.2.2.2.2.2.1 2 (by decide)).2.2.1) hS S.2.2.2.1 (S.2.2.2.2 (.fieldLink RJ0 9 "java/lang/String" "value" "[B") (by decide +kernel)) (fun _ h => h) dJ0_charAt_5068e_8 ?_
  refine lv_iload_n S.1 S.2.1 dJ0_charAt_5068e_11 rfl (lv_at hl 1 rfl) ?_
  refine b_ai (wr := []) (b_runS (As := [.ref (sq 22), .int i]) (s_J1_charAt_3b067_2 l D cI cZ cC cS sq H.size i (by first | with_reducible assumption | decide | (and_intros <;> first | with_reducible assumption | (intros; refine Int.le_antisymm ?_ ?_ <;> omega) | omega) | assumption | (rw [show Int32.toInt 0 = 0 from rfl]; omega))) S gJ0_charAt_5068e_J1_charAt_3b067 rfl hdS_J1_charAt_3b067 ⟨Nat.le_of_ble_eq_true rfl, Nat.le_of_ble_eq_true rfl⟩ ⟨Nat.le_of_ble_eq_true rfl, Nat.le_of_ble_eq_true rfl⟩ hK hT hS hA hP hD [] rfl (by decide) rfl hl.1 rfl (Nat.le_of_ble_eq_true rfl) dJ0_charAt_5068e_12) hP hD hS hA [] [] rfl rfl (by decide) (by decide) (fun r_5 w_6 H locs hw_7 hP hD hS => ?_)
  obtain ⟨hf_8, rfl⟩ := hw_7
  exact b_nret (ty := .char) S.1 S.2.1 X.2.1 X.2.2.1 (chN (chG (k := 2) (n := 4) (by decide) rfl hi.1 hi.2 (by first | with_reducible assumption | assumption)).2) hP hD hS ⟨(by first | with_reducible assumption | assumption | omega | decide | (rw [show Int32.toInt 0 = 0 from rfl]; omega)), rfl⟩ dJ0_charAt_5068e_15
set_option maxHeartbeats 4000000 in
set_option maxRecDepth 100000 in
theorem lp_isWord2 {p : Program} (l : Launch) {e : Env} {s : State} {m : MethodId} {below : List Frame} {meth : Method} {c : Code} (D : va_G) (cI cZ cC cS : ClassId) (sq : Nat → Nat) (tp : Nat) (by_ : Nat) (tz : Int32) (ts : Int32) (ta : Int32) (tb : Int32) (tv : Int32) (f : Nat → Int32) (a0 : Int) (hrg_f : rng f 400 (0) (255)) (hz : 0 ≤ tz.toInt ∧ tz.toInt ≤ 400) (ht1 : 0 ≤ ta.toInt ∧ ta.toInt ≤ tb.toInt ∧ tb.toInt ≤ tz.toInt) (ht3 : tok (tx f tz.toInt) a0 ts.toInt ta.toInt tb.toInt tv.toInt) (hln : tb.toInt - ta.toInt = 4) {A : Nat → Prop} (X : bX p s m meth c cX5_isWord 3 wsX5_isWord yX5_isWord (some .boolean) [.ref tp, .ref (sq 12)]) (hK : kW D (tyW cI cZ cC cS) sq s) (hT : sT sq A s s.heap) (hA : ∀ q, s.heap.size ≤ q → A q) (K : ∀ (i : Int32), (rng f 400 (0) (255)) → (0 ≤ i.toInt ∧ i.toInt ≤ 4) → (mtw (tx f tz.toInt) a0 2 i.toInt) → (4 ≤ i.toInt) → ∀ (H : Heap) (locs : List Loc) (ls : Array Slot), va_P D vwCl [(tp, .inr (5, [.ref by_, .int tz, .int ts, .int ta, .int tb, .int tv])), (by_, .inl (cI, 400, .inl f))] H → va_D A [(tp, .inr (5, [.ref by_, .int tz, .int ts, .int ta, .int tb, .int tv])), (by_, .inl (cI, 400, .inl f))] → va_S A s.heap H locs → lv_has ls 3 [(2, .int i), (0, .ref tp), (1, .ref (sq 12))] → W p l e (rmW 4 160 0 0) s m ([.ref tp, .ref (sq 12)] : List Value).toArray below meth c H locs 0 0 (MQ below (va_Qi (fun r w => ((tNm (tx f tz.toInt) a0 = wC 2) ∧ r = 1 ∧ w = [(tp, .inr (5, [.ref by_, .int tz, .int ts, .int ta, .int tb, .int tv])), (by_, .inl (cI, 400, .inl f))]) ∨ ((¬ tNm (tx f tz.toInt) a0 = wC 2) ∧ r = 0 ∧ w = [(tp, .inr (5, [.ref by_, .int tz, .int ts, .int ta, .int tb, .int tv])), (by_, .inl (cI, 400, .inl f))])) (wD D A) A) ([.ref tp, .ref (sq 12)] : List Value).toArray s 0 0 A) (F0 m 58 ls [])) : ∀ (mN : Nat) (i : Int32), (rng f 400 (0) (255)) → (0 ≤ i.toInt ∧ i.toInt ≤ 4) → (mtw (tx f tz.toInt) a0 2 i.toInt) → ((4 - i.toInt).toNat < mN) → ∀ (H : Heap) (locs : List Loc) (ls : Array Slot), va_P D vwCl [(tp, .inr (5, [.ref by_, .int tz, .int ts, .int ta, .int tb, .int tv])), (by_, .inl (cI, 400, .inl f))] H → va_D A [(tp, .inr (5, [.ref by_, .int tz, .int ts, .int ta, .int tb, .int tv])), (by_, .inl (cI, 400, .inl f))] → va_S A s.heap H locs → lv_has ls 3 [(2, .int i), (0, .ref tp), (1, .ref (sq 12))] → W p l e (rmW 4 160 0 0) s m ([.ref tp, .ref (sq 12)] : List Value).toArray below meth c H locs 0 0 (MQ below (va_Qi (fun r w => ((tNm (tx f tz.toInt) a0 = wC 2) ∧ r = 1 ∧ w = [(tp, .inr (5, [.ref by_, .int tz, .int ts, .int ta, .int tb, .int tv])), (by_, .inl (cI, 400, .inl f))]) ∨ ((¬ tNm (tx f tz.toInt) a0 = wC 2) ∧ r = 0 ∧ w = [(tp, .inr (5, [.ref by_, .int tz, .int ts, .int ta, .int tb, .int tv])), (by_, .inl (cI, 400, .inl f))])) (wD D A) A) ([.ref tp, .ref (sq 12)] : List Value).toArray s 0 0 A) (F0 m 23 ls []) := by
  have S : CallFix p m c cX5_isWord 3 s ([.ref tp, .ref (sq 12)] : List Value).toArray wsX5_isWord RX5 := X.1
  have iX5 := jX5_isWord_X5
  intro mN
  induction mN with
  | zero => intro i hrg_f hi hmt hm; exact absurd hm (Nat.not_lt_zero _)
  | succ mN ih =>
    intro i hrg_f hi hmt hm H locs ls hP hD hS hl
    refine lv_iload_n S.1 S.2.1 dX5_isWord_23 rfl (lv_at hl 0 rfl) ?_
    refine lv_aload_n S.1 S.2.1 dX5_isWord_24 rfl (lv_at hl 2 rfl) ?_
    refine b_ai (wr := [(tp, .inr (5, [.ref by_, .int tz, .int ts, .int ta, .int tb, .int tv])), (by_, .inl (cI, 400, .inl f))]) (b_runT (wi := 2) (As := []) (by decide) (s_J0_length_8abf5_2 l D cI cZ cC cS sq H.size ) S gX5_isWord_J0_length_8abf5 rfl hdV_J0_length_8abf5 ⟨Nat.le_of_ble_eq_true rfl, Nat.le_of_ble_eq_true rfl⟩ ⟨Nat.le_of_ble_eq_true rfl, Nat.le_of_ble_eq_true rfl⟩ hK hT hS hA hP hD [] rfl (by decide) rfl hl.1 rfl (Nat.le_of_ble_eq_true rfl) dX5_isWord_25) hP hD hS hA [] [0, 1] rfl rfl (by decide) (by decide) (fun r_101 w_102 H locs hw_103 hP hD hS => ?_)
    obtain ⟨rfl, rfl⟩ := hw_103
    have hP : va_P D vwCl [(tp, .inr (5, [.ref by_, .int tz, .int ts, .int ta, .int tb, .int tv])), (by_, .inl (cI, 400, .inl f))] H := hP
    have hD : va_D A [(tp, .inr (5, [.ref by_, .int tz, .int ts, .int ta, .int tb, .int tv])), (by_, .inl (cI, 400, .inl f))] := hD
    refine lv_icmp_ge (tgt := 58) S.1 S.2.1 dX5_isWord_28 (by decide) (fun c_104 => ?_) (fun c_104 => ?_)
    · rw [le2 (a := 4) (b := i) (A := 4) (B := i.toInt) rfl rfl] at c_104
      exact K i (by first | with_reducible assumption | assumption | omega | decide | (rw [show Int32.toInt 0 = 0 from rfl]; omega)) (by first | with_reducible assumption | decide | (and_intros <;> first | with_reducible assumption | (intros; refine Int.le_antisymm ?_ ?_ <;> omega) | omega) | assumption | (rw [show Int32.toInt 0 = 0 from rfl]; omega)) (by first | assumption | exact mtw_st hmt (by first | with_reducible assumption | assumption) (by have y := ht3.1; omega) (by first | (and_intros <;> first | with_reducible assumption | (refine Int.le_antisymm ?_ ?_ <;> omega) | omega) | omega) (by first | (and_intros <;> first | with_reducible assumption | (refine Int.le_antisymm ?_ ?_ <;> omega) | omega) | omega) (by first | with_reducible assumption | assumption) (by first | (and_intros <;> first | with_reducible assumption | (refine Int.le_antisymm ?_ ?_ <;> omega) | omega) | omega)) (by first | with_reducible assumption | decide | (and_intros <;> first | with_reducible assumption | (intros; refine Int.le_antisymm ?_ ?_ <;> omega) | omega) | assumption | (rw [show Int32.toInt 0 = 0 from rfl]; omega)) H _ ls hP hD hS (lv_sub hl [0, 1, 2] rfl)
    · rw [le2 (a := 4) (b := i) (A := 4) (B := i.toInt) rfl rfl] at c_104
      refine lv_aload_n S.1 S.2.1 dX5_isWord_31 rfl (lv_at hl 1 rfl) ?_
      refine b_get (v := .ref by_) S iX5 hK hP 0 rfl rfl 0 (by decide) (by decide +kernel) rfl dX5_isWord_32 ?_
      refine lv_aload_n S.1 S.2.1 dX5_isWord_35 rfl (lv_at hl 1 rfl) ?_
      refine b_get (v := .int ta) S iX5 hK hP 0 rfl rfl 3 (by decide) (by decide +kernel) rfl dX5_isWord_36 ?_
      refine lv_iload_n S.1 S.2.1 dX5_isWord_39 rfl (lv_at hl 0 rfl) ?_
      refine lv_iadd S.1 S.2.1 dX5_isWord_40 ?_
      refine lv_topi (fun x_105 ex_105 => ?_)
      have tx_105 : x_105.toInt = ta.toInt + (i.toInt) := addI (A := ta.toInt) (B := i.toInt) ex_105 rfl rfl (by  omega) (by  omega)
      have hin_106 : vp_in x_105 400 := (in_of (n := 400) (by  omega) (by  omega))
      refine va_iald S.1 S.2.1 hK.1 hP 1 0 rfl rfl hin_106 dX5_isWord_41 ?_
      refine lv_topi (fun x_107 ex_107 => ?_)
      have tx_107 := rng_get (x := x_107) (show rng f 400 (0) (255) by assumption) hin_106 ex_107
      have qx_107 := tx_get (n := tz.toInt) (i := x_105) (by first | (and_intros <;> first | with_reducible assumption | (refine Int.le_antisymm ?_ ?_ <;> omega) | omega) | omega) (by first | (and_intros <;> first | with_reducible assumption | (refine Int.le_antisymm ?_ ?_ <;> omega) | omega) | omega) ex_107
      refine lv_aload_n S.1 S.2.1 dX5_isWord_42 rfl (lv_at hl 2 rfl) ?_
      refine lv_iload_n S.1 S.2.1 dX5_isWord_43 rfl (lv_at hl 0 rfl) ?_
      refine b_ai (wr := [(tp, .inr (5, [.ref by_, .int tz, .int ts, .int ta, .int tb, .int tv])), (by_, .inl (cI, 400, .inl f))]) (b_runT (wi := 2) (As := [.int i]) (by decide) (s_J0_charAt_5068e_2 l D cI cZ cC cS sq H.size i (by first | with_reducible assumption | decide | (and_intros <;> first | with_reducible assumption | (intros; refine Int.le_antisymm ?_ ?_ <;> omega) | omega) | assumption | (rw [show Int32.toInt 0 = 0 from rfl]; omega))) S gX5_isWord_J0_charAt_5068e rfl hdV_J0_charAt_5068e ⟨Nat.le_of_ble_eq_true rfl, Nat.le_of_ble_eq_true rfl⟩ ⟨Nat.le_of_ble_eq_true rfl, Nat.le_of_ble_eq_true rfl⟩ hK hT hS hA hP hD [] rfl (by decide) rfl hl.1 rfl (Nat.le_of_ble_eq_true rfl) dX5_isWord_44) hP hD hS hA [] [0, 1] rfl rfl (by decide) (by decide) (fun r_108 w_109 H locs hw_110 hP hD hS => ?_)
      obtain ⟨hf_111, rfl⟩ := hw_110
      have hP : va_P D vwCl [(tp, .inr (5, [.ref by_, .int tz, .int ts, .int ta, .int tb, .int tv])), (by_, .inl (cI, 400, .inl f))] H := hP
      have hD : va_D A [(tp, .inr (5, [.ref by_, .int tz, .int ts, .int ta, .int tb, .int tv])), (by_, .inl (cI, 400, .inl f))] := hD
      refine lv_icmp_eq (tgt := 52) S.1 S.2.1 dX5_isWord_47 (by decide) (fun c_112 => ?_) (fun c_112 => ?_)
      · rw [eq2 (a := x_107) (b := r_108) (A := x_107.toInt) (B := r_108.toInt) rfl rfl] at c_112
        obtain ⟨x_113, ex_113⟩ : ∃ y : Int32, y = i + Int32.ofInt (1) := ⟨_, rfl⟩
        refine lv_iinc (v := x_113) (lv' := [(2, .int x_113), (0, .ref tp), (1, .ref (sq 12))]) S.1 S.2.1 dX5_isWord_52 hl (k := 0) rfl ex_113.symm (by decide) rfl (fun ls hl => ?_)
        have tx_113 : x_113.toInt = i.toInt + (1) := addI (A := i.toInt) (B := 1) ex_113 rfl rfl (by  omega) (by  omega)
        refine lv_goto (tgt := 23) S.1 S.2.1 dX5_isWord_55 (by decide) ?_
        exact ih x_113 (by first | with_reducible assumption | assumption | omega | decide | (rw [show Int32.toInt 0 = 0 from rfl]; omega)) (by first | with_reducible assumption | decide | (and_intros <;> first | with_reducible assumption | (intros; refine Int.le_antisymm ?_ ?_ <;> omega) | omega) | assumption | (rw [show Int32.toInt 0 = 0 from rfl]; omega)) (by first | assumption | exact mtw_st hmt (by first | with_reducible assumption | assumption) (by have y := ht3.1; omega) (by first | (and_intros <;> first | with_reducible assumption | (refine Int.le_antisymm ?_ ?_ <;> omega) | omega) | omega) (by first | (and_intros <;> first | with_reducible assumption | (refine Int.le_antisymm ?_ ?_ <;> omega) | omega) | omega) (by first | with_reducible assumption | assumption) (by first | (and_intros <;> first | with_reducible assumption | (refine Int.le_antisymm ?_ ?_ <;> omega) | omega) | omega)) (by first | (and_intros <;> first | with_reducible assumption | (refine Int.le_antisymm ?_ ?_ <;> omega) | omega) | omega) H _ ls hP hD hS (lv_sub hl [0, 1, 2] rfl)
      · rw [eq2 (a := x_107) (b := r_108) (A := x_107.toInt) (B := r_108.toInt) rfl rfl] at c_112
        refine lv_iconst (v := (0)) S.1 S.2.1 dX5_isWord_50 (by decide) ?_
        exact b_zret S.1 S.2.1 X.2.1 X.2.2.1 rfl hP hD hS (Or.inr (⟨(fun q => by have z := wn_2 q; have y1 := ht3.2.1; have y2 := ht3.2.2.1; have y3 := ht3.1; first | omega | exact mtw_no (i := i) z.2.2 (by first | with_reducible assumption | assumption) (by first | (and_intros <;> first | with_reducible assumption | (refine Int.le_antisymm ?_ ?_ <;> omega) | omega) | omega) (by first | (and_intros <;> first | with_reducible assumption | (refine Int.le_antisymm ?_ ?_ <;> omega) | omega) | omega) (by first | (and_intros <;> first | with_reducible assumption | (refine Int.le_antisymm ?_ ?_ <;> omega) | omega) | omega) (by first | with_reducible assumption | assumption) (by first | (and_intros <;> first | with_reducible assumption | (refine Int.le_antisymm ?_ ?_ <;> omega) | omega) | omega)), rfl, rfl⟩)) dX5_isWord_51
set_option maxHeartbeats 4000000 in
set_option maxRecDepth 100000 in
theorem s_X5_isWord_2 (l : Launch) (D : va_G) (cI cZ cC cS : ClassId) (sq : Nat → Nat) (sz : Nat) (tp : Nat) (by_ : Nat) (tz : Int32) (ts : Int32) (ta : Int32) (tb : Int32) (tv : Int32) (f : Nat → Int32) (a0 : Int) (hrg_f : rng f 400 (0) (255)) (hz : 0 ≤ tz.toInt ∧ tz.toInt ≤ 400) (ht1 : 0 ≤ ta.toInt ∧ ta.toInt ≤ tb.toInt ∧ tb.toInt ≤ tz.toInt) (ht3 : tok (tx f tz.toInt) a0 ts.toInt ta.toInt tb.toInt tv.toInt) : mI l yX5_isWord wsX5_isWord 4 160 D (tyW cI cZ cC cS) sq [(tp, .inr (5, [.ref by_, .int tz, .int ts, .int ta, .int tb, .int tv])), (by_, .inl (cI, 400, .inl f))] sz [.ref tp, .ref (sq 12)] (fun r w => ((tNm (tx f tz.toInt) a0 = wC 2) ∧ r = 1 ∧ w = [(tp, .inr (5, [.ref by_, .int tz, .int ts, .int ta, .int tb, .int tv])), (by_, .inl (cI, 400, .inl f))]) ∨ ((¬ tNm (tx f tz.toInt) a0 = wC 2) ∧ r = 0 ∧ w = [(tp, .inr (5, [.ref by_, .int tz, .int ts, .int ta, .int tb, .int tv])), (by_, .inl (cI, 400, .inl f))])) := by
  refine b_metI (cc := cX5_isWord) (maxL := 3) (ret := (some .boolean)) (by decide) rfl (Nat.le_of_ble_eq_true rfl) ?_
  intro p e s m below meth c ls A H X hsz hP hK hT hD hA hS hl
  have S : CallFix p m c cX5_isWord 3 s ([.ref tp, .ref (sq 12)] : List Value).toArray wsX5_isWord RX5 := X.1
  have hl : lv_has ls 3 [(0, .ref tp), (1, .ref (sq 12))] := hl
  have iX5 := jX5_isWord_X5
  refine lv_aload_n S.1 S.2.1 dX5_isWord_0 rfl (lv_at hl 0 rfl) ?_
  refine b_get (v := .int ts) S iX5 hK hP 0 rfl rfl 2 (by decide) (by decide +kernel) rfl dX5_isWord_1 ?_
  refine lv_iconst (v := (1)) S.1 S.2.1 dX5_isWord_4 (by decide) ?_
  refine lv_icmp_ne (tgt := 19) S.1 S.2.1 dX5_isWord_5 (by decide) (fun c_1 => ?_) (fun c_1 => ?_)
  · rw [eq2 (a := ts) (b := 1) (A := ts.toInt) (B := 1) rfl rfl] at c_1
    refine lv_iconst (v := (0)) S.1 S.2.1 dX5_isWord_19 (by decide) ?_
    exact b_zret S.1 S.2.1 X.2.1 X.2.2.1 rfl hP hD hS (Or.inr (⟨(fun q => by have z := wn_2 q; have y1 := ht3.2.1; have y2 := ht3.2.2.1; have y3 := ht3.1; first | omega | exact mtw_no (i := i) z.2.2 (by first | with_reducible assumption | assumption) (by first | (and_intros <;> first | with_reducible assumption | (refine Int.le_antisymm ?_ ?_ <;> omega) | omega) | omega) (by first | (and_intros <;> first | with_reducible assumption | (refine Int.le_antisymm ?_ ?_ <;> omega) | omega) | omega) (by first | (and_intros <;> first | with_reducible assumption | (refine Int.le_antisymm ?_ ?_ <;> omega) | omega) | omega) (by first | with_reducible assumption | assumption) (by first | (and_intros <;> first | with_reducible assumption | (refine Int.le_antisymm ?_ ?_ <;> omega) | omega) | omega)), rfl, rfl⟩)) dX5_isWord_20
  · rw [eq2 (a := ts) (b := 1) (A := ts.toInt) (B := 1) rfl rfl] at c_1
    refine lv_aload_n S.1 S.2.1 dX5_isWord_8 rfl (lv_at hl 0 rfl) ?_
    refine b_ai (wr := [(by_, .inl (cI, 400, .inl f))]) (b_runV (q0 := 0) (ci := 5) (As := []) (s_X5_length l D cI cZ cC cS sq H.size tp by_ tz ts ta tb tv (by first | with_reducible assumption | decide | (and_intros <;> first | with_reducible assumption | (intros; refine Int.le_antisymm ?_ ?_ <;> omega) | omega) | assumption | (rw [show Int32.toInt 0 = 0 from rfl]; omega))) S gX5_isWord_X5_length rfl hdV_X5_length ⟨Nat.le_of_ble_eq_true rfl, Nat.le_of_ble_eq_true rfl⟩ ⟨Nat.le_of_ble_eq_true rfl, Nat.le_of_ble_eq_true rfl⟩ hK hT hS hA hP hD rfl rfl [0] rfl (by decide) rfl hl.1 rfl (Nat.le_of_ble_eq_true rfl) dX5_isWord_9) hP hD hS hA [0] [1] rfl rfl (by decide) (by decide) (fun r_2 w_3 H locs hw_4 hP hD hS => ?_)
    obtain ⟨hf_5, rfl⟩ := hw_4
    have hP : va_P D vwCl [(by_, .inl (cI, 400, .inl f)), (tp, .inr (5, [.ref by_, .int tz, .int ts, .int ta, .int tb, .int tv]))] H := hP
    have hD : va_D A [(by_, .inl (cI, 400, .inl f)), (tp, .inr (5, [.ref by_, .int tz, .int ts, .int ta, .int tb, .int tv]))] := hD
    refine lv_aload_n S.1 S.2.1 dX5_isWord_12 rfl (lv_at hl 1 rfl) ?_
    refine b_ai (wr := [(by_, .inl (cI, 400, .inl f)), (tp, .inr (5, [.ref by_, .int tz, .int ts, .int ta, .int tb, .int tv]))]) (b_runT (wi := 2) (As := []) (by decide) (s_J0_length_8abf5_2 l D cI cZ cC cS sq H.size ) S gX5_isWord_J0_length_8abf5 rfl hdV_J0_length_8abf5 ⟨Nat.le_of_ble_eq_true rfl, Nat.le_of_ble_eq_true rfl⟩ ⟨Nat.le_of_ble_eq_true rfl, Nat.le_of_ble_eq_true rfl⟩ hK hT hS hA hP hD [] rfl (by decide) rfl hl.1 rfl (Nat.le_of_ble_eq_true rfl) dX5_isWord_13) hP hD hS hA [] [0, 1] rfl rfl (by decide) (by decide) (fun r_6 w_7 H locs hw_8 hP hD hS => ?_)
    obtain ⟨rfl, rfl⟩ := hw_8
    have hP : va_P D vwCl [(by_, .inl (cI, 400, .inl f)), (tp, .inr (5, [.ref by_, .int tz, .int ts, .int ta, .int tb, .int tv]))] H := hP
    have hD : va_D A [(by_, .inl (cI, 400, .inl f)), (tp, .inr (5, [.ref by_, .int tz, .int ts, .int ta, .int tb, .int tv]))] := hD
    refine lv_icmp_eq (tgt := 21) S.1 S.2.1 dX5_isWord_16 (by decide) (fun c_9 => ?_) (fun c_9 => ?_)
    · rw [eq2 (a := r_2) (b := 4) (A := r_2.toInt) (B := 4) rfl rfl] at c_9
      refine lv_iconst (v := (0)) S.1 S.2.1 dX5_isWord_21 (by decide) ?_
      refine lv_istore_n (lv' := [(2, .int 0), (0, .ref tp), (1, .ref (sq 12))]) S.1 S.2.1 dX5_isWord_22 rfl hl (by decide) rfl (fun ls hl => ?_)
      have hP := hP.sub (ws' := [(tp, .inr (5, [.ref by_, .int tz, .int ts, .int ta, .int tb, .int tv])), (by_, .inl (cI, 400, .inl f))]) [1, 0] rfl
      have hD := hD.sub (ws' := [(tp, .inr (5, [.ref by_, .int tz, .int ts, .int ta, .int tb, .int tv])), (by_, .inl (cI, 400, .inl f))]) [1, 0] (by decide) rfl
      refine lp_isWord2 l D cI cZ cC cS sq tp by_ tz ts ta tb tv f a0 hrg_f hz ht1 ht3 (by first | with_reducible assumption | decide | (and_intros <;> first | with_reducible assumption | (intros; refine Int.le_antisymm ?_ ?_ <;> omega) | omega) | assumption | (rw [show Int32.toInt 0 = 0 from rfl]; omega)) X hK hT hA (fun i_10 hi_11 hi_12 hi_13 hi_14 H locs ls hP hD hS hl => ?_) _ (0) (by first | with_reducible assumption | assumption | omega | decide | (rw [show Int32.toInt 0 = 0 from rfl]; omega)) (by first | with_reducible assumption | decide | (and_intros <;> first | with_reducible assumption | (intros; refine Int.le_antisymm ?_ ?_ <;> omega) | omega) | assumption | (rw [show Int32.toInt 0 = 0 from rfl]; omega)) (mtw_0 (by decide)) (Nat.lt_succ_self _) H _ ls hP hD hS (lv_sub hl [0, 1, 2] rfl)
      refine lv_iconst (v := (1)) S.1 S.2.1 dX5_isWord_58 (by decide) ?_
      exact b_zret S.1 S.2.1 X.2.1 X.2.2.1 rfl hP hD hS (Or.inl ⟨(wy_2 (tok_k ht3 (by first | with_reducible assumption | assumption)) (by have z := ht3.2.2.1; have y := ht3.1; omega) (mtw_sub (by first | with_reducible assumption | assumption) (by first | (and_intros <;> first | with_reducible assumption | (refine Int.le_antisymm ?_ ?_ <;> omega) | omega) | omega))), rfl, rfl⟩) dX5_isWord_59
    · rw [eq2 (a := r_2) (b := 4) (A := r_2.toInt) (B := 4) rfl rfl] at c_9
      refine lv_iconst (v := (0)) S.1 S.2.1 dX5_isWord_19 (by decide) ?_
      have hP := hP.sub (ws' := [(tp, .inr (5, [.ref by_, .int tz, .int ts, .int ta, .int tb, .int tv])), (by_, .inl (cI, 400, .inl f))]) [1, 0] rfl
      have hD := hD.sub (ws' := [(tp, .inr (5, [.ref by_, .int tz, .int ts, .int ta, .int tb, .int tv])), (by_, .inl (cI, 400, .inl f))]) [1, 0] (by decide) rfl
      exact b_zret S.1 S.2.1 X.2.1 X.2.2.1 rfl hP hD hS (Or.inr (⟨(fun q => by have z := wn_2 q; have y1 := ht3.2.1; have y2 := ht3.2.2.1; have y3 := ht3.1; first | omega | exact mtw_no (i := i) z.2.2 (by first | with_reducible assumption | assumption) (by first | (and_intros <;> first | with_reducible assumption | (refine Int.le_antisymm ?_ ?_ <;> omega) | omega) | omega) (by first | (and_intros <;> first | with_reducible assumption | (refine Int.le_antisymm ?_ ?_ <;> omega) | omega) | omega) (by first | (and_intros <;> first | with_reducible assumption | (refine Int.le_antisymm ?_ ?_ <;> omega) | omega) | omega) (by first | with_reducible assumption | assumption) (by first | (and_intros <;> first | with_reducible assumption | (refine Int.le_antisymm ?_ ?_ <;> omega) | omega) | omega)), rfl, rfl⟩)) dX5_isWord_20
set_option maxHeartbeats 4000000 in
set_option maxRecDepth 100000 in
theorem s_J0_coder_7d493_3 (l : Launch) (D : va_G) (cI cZ cC cS : ClassId) (sq : Nat → Nat) (sz : Nat)  : mI l yJ0_coder_7d493 wsJ0_coder_7d493 0 0 D (tyW cI cZ cC cS) sq [] sz [.ref (sq 13)] (fun r w => (r = 0 ∧ w = [])) := by
  refine b_metI (cc := cJ0_coder_7d493) (maxL := 1) (ret := (some .byte)) (by decide) rfl (Nat.le_of_ble_eq_true rfl) ?_
  intro p e s m below meth c ls A H X hsz hP hK hT hD hA hS hl
  have S : CallFix p m c cJ0_coder_7d493 1 s ([.ref (sq 13)] : List Value).toArray wsJ0_coder_7d493 RJ0 := X.1
  have hl : lv_has ls 1 [(0, .ref (sq 13))] := hl
  refine va_gets (C := "java/lang/String") S.1 S.2.1 hT.2.2.2.2.2.1 hS S.2.2.2.1 (S.2.2.2.2 (.fieldLink RJ0 38 "java/lang/String" "COMPACT_STRINGS" "Z") (by decide +kernel)) (fun _ h => h) dJ0_coder_7d493_0 ?_
  refine lv_if_eq (tgt := 13) S.1 S.2.1 dJ0_coder_7d493_3 (by decide) (fun c_1 => absurd c_1 (by decide)) (fun c_1 => ?_)
  refine lv_aload_n S.1 S.2.1 dJ0_coder_7d493_6 rfl (lv_at hl 0 rfl) ?_
  refine vk_getf S.1 S.2.1 (show va_OF "java/lang/String" "coder" "B" (.int 0) (sq 13) A s s.heap from (hT.2.2.2.2.2.2.2.1 3 (by decide)).2.1) hS S.2.2.2.1 (S.2.2.2.2 (.fieldLink RJ0 15 "java/lang/String" "coder" "B") (by decide +kernel)) (fun _ h => h) dJ0_coder_7d493_7 ?_
  refine lv_goto (tgt := 14) S.1 S.2.1 dJ0_coder_7d493_10 (by decide) ?_
  exact b_nret (ty := .byte) S.1 S.2.1 X.2.1 X.2.2.1 rfl hP hD hS ⟨rfl, rfl⟩ dJ0_coder_7d493_14
set_option maxHeartbeats 4000000 in
set_option maxRecDepth 100000 in
theorem s_J0_length_8abf5_3 (l : Launch) (D : va_G) (cI cZ cC cS : ClassId) (sq : Nat → Nat) (sz : Nat)  : mI l yJ0_length_8abf5 wsJ0_length_8abf5 1 40 D (tyW cI cZ cC cS) sq [] sz [.ref (sq 13)] (fun r w => (r = 6 ∧ w = [])) := by
  refine b_metI (cc := cJ0_length_8abf5) (maxL := 1) (ret := (some .int)) (by decide) rfl (Nat.le_of_ble_eq_true rfl) ?_
  intro p e s m below meth c ls A H X hsz hP hK hT hD hA hS hl
  have S : CallFix p m c cJ0_length_8abf5 1 s ([.ref (sq 13)] : List Value).toArray wsJ0_length_8abf5 RJ0 := X.1
  have hl : lv_has ls 1 [(0, .ref (sq 13))] := hl
  refine lv_aload_n S.1 S.2.1 dJ0_length_8abf5_0 rfl (lv_at hl 0 rfl) ?_
  refine vk_getf S.1 S.2.1 (show va_OF "java/lang/String" "value" "[B" (.ref (sq 23)) (sq 13) A s s.heap from (hT.2.2.2.2.2.2.2.1 3 (by decide)).2.2.1) hS S.2.2.2.1 (S.2.2.2.2 (.fieldLink RJ0 9 "java/lang/String" "value" "[B") (by decide +kernel)) (fun _ h => h) dJ0_length_8abf5_1 ?_
  refine va_tlen (v := 6) S.1 S.2.1 (show va_T .byte (sq 23) 6 (fun j => .int ((wordB.getD 3 []).getD j 0)) A s s.heap from (hT.2.2.2.2.2.2.2.1 3 (by decide)).2.2.2) hS rfl dJ0_length_8abf5_4 ?_
  refine lv_aload_n S.1 S.2.1 dJ0_length_8abf5_5 rfl (lv_at hl 0 rfl) ?_
  refine b_ai (wr := []) (b_runT (wi := 3) (As := []) (by decide) (s_J0_coder_7d493_3 l D cI cZ cC cS sq H.size ) S gJ0_length_8abf5_J0_coder_7d493 rfl hdV_J0_coder_7d493 ⟨Nat.le_of_ble_eq_true rfl, Nat.le_of_ble_eq_true rfl⟩ ⟨Nat.le_of_ble_eq_true rfl, Nat.le_of_ble_eq_true rfl⟩ hK hT hS hA hP hD [] rfl (by decide) rfl hl.1 rfl (Nat.le_of_ble_eq_true rfl) dJ0_length_8abf5_6) hP hD hS hA [] [] rfl rfl (by decide) (by decide) (fun r_1 w_2 H locs hw_3 hP hD hS => ?_)
  obtain ⟨rfl, rfl⟩ := hw_3
  refine lv_ishr S.1 S.2.1 dJ0_length_8abf5_9 ?_
  refine lv_topi (fun x_4 ex_4 => ?_)
  have ex_4 : x_4 = 6 := by rw [ex_4]; decide
  subst ex_4
  exact b_iret S.1 S.2.1 X.2.1 X.2.2.1 hP hD hS ⟨rfl, rfl⟩ dJ0_length_8abf5_10
set_option maxHeartbeats 4000000 in
set_option maxRecDepth 100000 in
theorem s_J0_isLatin1_aae02_3 (l : Launch) (D : va_G) (cI cZ cC cS : ClassId) (sq : Nat → Nat) (sz : Nat)  : mI l yJ0_isLatin1_aae02 wsJ0_isLatin1_aae02 0 0 D (tyW cI cZ cC cS) sq [] sz [.ref (sq 13)] (fun r w => (r = 1 ∧ w = [])) := by
  refine b_metI (cc := cJ0_isLatin1_aae02) (maxL := 1) (ret := (some .boolean)) (by decide) rfl (Nat.le_of_ble_eq_true rfl) ?_
  intro p e s m below meth c ls A H X hsz hP hK hT hD hA hS hl
  have S : CallFix p m c cJ0_isLatin1_aae02 1 s ([.ref (sq 13)] : List Value).toArray wsJ0_isLatin1_aae02 RJ0 := X.1
  have hl : lv_has ls 1 [(0, .ref (sq 13))] := hl
  refine va_gets (C := "java/lang/String") S.1 S.2.1 hT.2.2.2.2.2.1 hS S.2.2.2.1 (S.2.2.2.2 (.fieldLink RJ0 38 "java/lang/String" "COMPACT_STRINGS" "Z") (by decide +kernel)) (fun _ h => h) dJ0_isLatin1_aae02_0 ?_
  refine lv_if_eq (tgt := 17) S.1 S.2.1 dJ0_isLatin1_aae02_3 (by decide) (fun c_1 => absurd c_1 (by decide)) (fun c_1 => ?_)
  refine lv_aload_n S.1 S.2.1 dJ0_isLatin1_aae02_6 rfl (lv_at hl 0 rfl) ?_
  refine vk_getf S.1 S.2.1 (show va_OF "java/lang/String" "coder" "B" (.int 0) (sq 13) A s s.heap from (hT.2.2.2.2.2.2.2.1 3 (by decide)).2.1) hS S.2.2.2.1 (S.2.2.2.2 (.fieldLink RJ0 15 "java/lang/String" "coder" "B") (by decide +kernel)) (fun _ h => h) dJ0_isLatin1_aae02_7 ?_
  refine lv_if_ne (tgt := 17) S.1 S.2.1 dJ0_isLatin1_aae02_10 (by decide) (fun c_2 => absurd c_2 (by decide)) (fun c_2 => ?_)
  refine lv_iconst (v := (1)) S.1 S.2.1 dJ0_isLatin1_aae02_13 (by decide) ?_
  refine lv_goto (tgt := 18) S.1 S.2.1 dJ0_isLatin1_aae02_14 (by decide) ?_
  exact b_zret S.1 S.2.1 X.2.1 X.2.2.1 rfl hP hD hS ⟨rfl, rfl⟩ dJ0_isLatin1_aae02_18
set_option maxHeartbeats 4000000 in
set_option maxRecDepth 100000 in
theorem s_J1_charAt_3b067_3 (l : Launch) (D : va_G) (cI cZ cC cS : ClassId) (sq : Nat → Nat) (sz : Nat) (i : Int32) (hi : 0 ≤ i.toInt ∧ i.toInt < 6) : mI l yJ1_charAt_3b067 wsJ1_charAt_3b067 2 80 D (tyW cI cZ cC cS) sq [] sz [.ref (sq 23), .int i] (fun r w => ((r = (wordB.getD 3 []).getD i.toNatClampNeg 0) ∧ w = [])) := by
  refine b_metI (cc := cJ1_charAt_3b067) (maxL := 2) (ret := (some .char)) (by decide) rfl (Nat.le_of_ble_eq_true rfl) ?_
  intro p e s m below meth c ls A H X hsz hP hK hT hD hA hS hl
  have S : CallFix p m c cJ1_charAt_3b067 2 s ([.ref (sq 23), .int i] : List Value).toArray wsJ1_charAt_3b067 RJ1 := X.1
  have hl : lv_has ls 2 [(0, .ref (sq 23)), (1, .int i)] := hl
  refine lv_iload_n S.1 S.2.1 dJ1_charAt_3b067_0 rfl (lv_at hl 1 rfl) ?_
  refine lv_aload_n S.1 S.2.1 dJ1_charAt_3b067_1 rfl (lv_at hl 0 rfl) ?_
  refine va_tlen (v := 6) S.1 S.2.1 (show va_T .byte (sq 23) 6 (fun j => .int ((wordB.getD 3 []).getD j 0)) A s s.heap from (hT.2.2.2.2.2.2.2.1 3 (by decide)).2.2.2) hS rfl dJ1_charAt_3b067_2 ?_
  refine b_av (wr := []) (b_runS (As := [.int i, .int 6]) (s_J0_checkIndex_df160 l D cI cZ cC cS sq H.size i (6) (by first | with_reducible assumption | decide | (and_intros <;> first | with_reducible assumption | (intros; refine Int.le_antisymm ?_ ?_ <;> omega) | omega) | assumption | (rw [show Int32.toInt 0 = 0 from rfl]; omega))) S gJ1_charAt_3b067_J0_checkIndex_df160 rfl hdS_J0_checkIndex_df160 ⟨Nat.le_of_ble_eq_true rfl, Nat.le_of_ble_eq_true rfl⟩ ⟨Nat.le_of_ble_eq_true rfl, Nat.le_of_ble_eq_true rfl⟩ hK hT hS hA hP hD [] rfl (by decide) rfl hl.1 rfl (Nat.le_of_ble_eq_true rfl) dJ1_charAt_3b067_3) hP hD hS hA [] [] rfl rfl (by decide) (by decide) (fun w_2 H locs hw_3 hP hD hS => ?_)
  obtain rfl := hw_3
  refine lv_aload_n S.1 S.2.1 dJ1_charAt_3b067_6 rfl (lv_at hl 0 rfl) ?_
  refine lv_iload_n S.1 S.2.1 dJ1_charAt_3b067_7 rfl (lv_at hl 1 rfl) ?_
  refine va_tb (v := .int ((wordB.getD 3 []).getD i.toNatClampNeg 0)) S.1 S.2.1 (show va_T .byte (sq 23) 6 (fun j => .int ((wordB.getD 3 []).getD j 0)) A s s.heap from (hT.2.2.2.2.2.2.2.1 3 (by decide)).2.2.2) hS (in_of (n := 6) (by  omega) (by  omega)) rfl dJ1_charAt_3b067_8 ?_
  refine lv_topi (fun x_4 ex_4 => ?_)
  have gL := chG (k := 3) (n := 6) (by decide) rfl hi.1 hi.2 ex_4; have eL := ex_4
  refine lv_sipush (v := (255)) S.1 S.2.1 dJ1_charAt_3b067_9 (by decide) ?_
  refine lv_iand S.1 S.2.1 dJ1_charAt_3b067_12 ?_
  refine lv_topi (fun x_5 ex_5 => ?_)
  have eN := ex_5
  refine lv_i2c S.1 S.2.1 dJ1_charAt_3b067_13 rfl ?_
  refine lv_topi (fun x_6 ex_6 => ?_)
  have tL := (ex_6.trans (by rw [eN])).trans gL.1
  exact b_nret (ty := .char) S.1 S.2.1 X.2.1 X.2.2.1 (by rw [tL]; exact chN gL.2) hP hD hS ⟨(tL.trans eL), rfl⟩ dJ1_charAt_3b067_14
set_option maxHeartbeats 4000000 in
set_option maxRecDepth 100000 in
theorem s_J0_charAt_5068e_3 (l : Launch) (D : va_G) (cI cZ cC cS : ClassId) (sq : Nat → Nat) (sz : Nat) (i : Int32) (hi : 0 ≤ i.toInt ∧ i.toInt < 6) : mI l yJ0_charAt_5068e wsJ0_charAt_5068e 3 120 D (tyW cI cZ cC cS) sq [] sz [.ref (sq 13), .int i] (fun r w => ((r = (wordB.getD 3 []).getD i.toNatClampNeg 0) ∧ w = [])) := by
  refine b_metI (cc := cJ0_charAt_5068e) (maxL := 2) (ret := (some .char)) (by decide) rfl (Nat.le_of_ble_eq_true rfl) ?_
  intro p e s m below meth c ls A H X hsz hP hK hT hD hA hS hl
  have S : CallFix p m c cJ0_charAt_5068e 2 s ([.ref (sq 13), .int i] : List Value).toArray wsJ0_charAt_5068e RJ0 := X.1
  have hl : lv_has ls 2 [(0, .ref (sq 13)), (1, .int i)] := hl
  refine lv_aload_n S.1 S.2.1 dJ0_charAt_5068e_0 rfl (lv_at hl 0 rfl) ?_
  refine b_ai (wr := []) (b_runT (wi := 3) (As := []) (by decide) (s_J0_isLatin1_aae02_3 l D cI cZ cC cS sq H.size ) S gJ0_charAt_5068e_J0_isLatin1_aae02 rfl hdV_J0_isLatin1_aae02 ⟨Nat.le_of_ble_eq_true rfl, Nat.le_of_ble_eq_true rfl⟩ ⟨Nat.le_of_ble_eq_true rfl, Nat.le_of_ble_eq_true rfl⟩ hK hT hS hA hP hD [] rfl (by decide) rfl hl.1 rfl (Nat.le_of_ble_eq_true rfl) dJ0_charAt_5068e_1) hP hD hS hA [] [] rfl rfl (by decide) (by decide) (fun r_1 w_2 H locs hw_3 hP hD hS => ?_)
  obtain ⟨rfl, rfl⟩ := hw_3
  refine lv_if_eq (tgt := 16) S.1 S.2.1 dJ0_charAt_5068e_4 (by decide) (fun c_4 => absurd c_4 (by decide)) (fun c_4 => ?_)
  refine lv_aload_n S.1 S.2.1 dJ0_charAt_5068e_7 rfl (lv_at hl 0 rfl) ?_
  refine vk_getf S.1 S.2.1 (show va_OF "java/lang/String" "value" "[B" (.ref (sq 23)) (sq 13) A s s.heap from (hT.2.2.2.2.2.2.2.1 3 (by decide)).2.2.1) hS S.2.2.2.1 (S.2.2.2.2 (.fieldLink RJ0 9 "java/lang/String" "value" "[B") (by decide +kernel)) (fun _ h => h) dJ0_charAt_5068e_8 ?_
  refine lv_iload_n S.1 S.2.1 dJ0_charAt_5068e_11 rfl (lv_at hl 1 rfl) ?_
  refine b_ai (wr := []) (b_runS (As := [.ref (sq 23), .int i]) (s_J1_charAt_3b067_3 l D cI cZ cC cS sq H.size i (by first | with_reducible assumption | decide | (and_intros <;> first | with_reducible assumption | (intros; refine Int.le_antisymm ?_ ?_ <;> omega) | omega) | assumption | (rw [show Int32.toInt 0 = 0 from rfl]; omega))) S gJ0_charAt_5068e_J1_charAt_3b067 rfl hdS_J1_charAt_3b067 ⟨Nat.le_of_ble_eq_true rfl, Nat.le_of_ble_eq_true rfl⟩ ⟨Nat.le_of_ble_eq_true rfl, Nat.le_of_ble_eq_true rfl⟩ hK hT hS hA hP hD [] rfl (by decide) rfl hl.1 rfl (Nat.le_of_ble_eq_true rfl) dJ0_charAt_5068e_12) hP hD hS hA [] [] rfl rfl (by decide) (by decide) (fun r_5 w_6 H locs hw_7 hP hD hS => ?_)
  obtain ⟨hf_8, rfl⟩ := hw_7
  exact b_nret (ty := .char) S.1 S.2.1 X.2.1 X.2.2.1 (chN (chG (k := 3) (n := 6) (by decide) rfl hi.1 hi.2 (by first | with_reducible assumption | assumption)).2) hP hD hS ⟨(by first | with_reducible assumption | assumption | omega | decide | (rw [show Int32.toInt 0 = 0 from rfl]; omega)), rfl⟩ dJ0_charAt_5068e_15
set_option maxHeartbeats 4000000 in
set_option maxRecDepth 100000 in
theorem lp_isWord3 {p : Program} (l : Launch) {e : Env} {s : State} {m : MethodId} {below : List Frame} {meth : Method} {c : Code} (D : va_G) (cI cZ cC cS : ClassId) (sq : Nat → Nat) (tp : Nat) (by_ : Nat) (tz : Int32) (ts : Int32) (ta : Int32) (tb : Int32) (tv : Int32) (f : Nat → Int32) (a0 : Int) (hrg_f : rng f 400 (0) (255)) (hz : 0 ≤ tz.toInt ∧ tz.toInt ≤ 400) (ht1 : 0 ≤ ta.toInt ∧ ta.toInt ≤ tb.toInt ∧ tb.toInt ≤ tz.toInt) (ht3 : tok (tx f tz.toInt) a0 ts.toInt ta.toInt tb.toInt tv.toInt) (hln : tb.toInt - ta.toInt = 6) {A : Nat → Prop} (X : bX p s m meth c cX5_isWord 3 wsX5_isWord yX5_isWord (some .boolean) [.ref tp, .ref (sq 13)]) (hK : kW D (tyW cI cZ cC cS) sq s) (hT : sT sq A s s.heap) (hA : ∀ q, s.heap.size ≤ q → A q) (K : ∀ (i : Int32), (rng f 400 (0) (255)) → (0 ≤ i.toInt ∧ i.toInt ≤ 6) → (mtw (tx f tz.toInt) a0 3 i.toInt) → (6 ≤ i.toInt) → ∀ (H : Heap) (locs : List Loc) (ls : Array Slot), va_P D vwCl [(tp, .inr (5, [.ref by_, .int tz, .int ts, .int ta, .int tb, .int tv])), (by_, .inl (cI, 400, .inl f))] H → va_D A [(tp, .inr (5, [.ref by_, .int tz, .int ts, .int ta, .int tb, .int tv])), (by_, .inl (cI, 400, .inl f))] → va_S A s.heap H locs → lv_has ls 3 [(2, .int i), (0, .ref tp), (1, .ref (sq 13))] → W p l e (rmW 4 160 0 0) s m ([.ref tp, .ref (sq 13)] : List Value).toArray below meth c H locs 0 0 (MQ below (va_Qi (fun r w => ((tNm (tx f tz.toInt) a0 = wC 3) ∧ r = 1 ∧ w = [(tp, .inr (5, [.ref by_, .int tz, .int ts, .int ta, .int tb, .int tv])), (by_, .inl (cI, 400, .inl f))]) ∨ ((¬ tNm (tx f tz.toInt) a0 = wC 3) ∧ r = 0 ∧ w = [(tp, .inr (5, [.ref by_, .int tz, .int ts, .int ta, .int tb, .int tv])), (by_, .inl (cI, 400, .inl f))])) (wD D A) A) ([.ref tp, .ref (sq 13)] : List Value).toArray s 0 0 A) (F0 m 58 ls [])) : ∀ (mN : Nat) (i : Int32), (rng f 400 (0) (255)) → (0 ≤ i.toInt ∧ i.toInt ≤ 6) → (mtw (tx f tz.toInt) a0 3 i.toInt) → ((6 - i.toInt).toNat < mN) → ∀ (H : Heap) (locs : List Loc) (ls : Array Slot), va_P D vwCl [(tp, .inr (5, [.ref by_, .int tz, .int ts, .int ta, .int tb, .int tv])), (by_, .inl (cI, 400, .inl f))] H → va_D A [(tp, .inr (5, [.ref by_, .int tz, .int ts, .int ta, .int tb, .int tv])), (by_, .inl (cI, 400, .inl f))] → va_S A s.heap H locs → lv_has ls 3 [(2, .int i), (0, .ref tp), (1, .ref (sq 13))] → W p l e (rmW 4 160 0 0) s m ([.ref tp, .ref (sq 13)] : List Value).toArray below meth c H locs 0 0 (MQ below (va_Qi (fun r w => ((tNm (tx f tz.toInt) a0 = wC 3) ∧ r = 1 ∧ w = [(tp, .inr (5, [.ref by_, .int tz, .int ts, .int ta, .int tb, .int tv])), (by_, .inl (cI, 400, .inl f))]) ∨ ((¬ tNm (tx f tz.toInt) a0 = wC 3) ∧ r = 0 ∧ w = [(tp, .inr (5, [.ref by_, .int tz, .int ts, .int ta, .int tb, .int tv])), (by_, .inl (cI, 400, .inl f))])) (wD D A) A) ([.ref tp, .ref (sq 13)] : List Value).toArray s 0 0 A) (F0 m 23 ls []) := by
  have S : CallFix p m c cX5_isWord 3 s ([.ref tp, .ref (sq 13)] : List Value).toArray wsX5_isWord RX5 := X.1
  have iX5 := jX5_isWord_X5
  intro mN
  induction mN with
  | zero => intro i hrg_f hi hmt hm; exact absurd hm (Nat.not_lt_zero _)
  | succ mN ih =>
    intro i hrg_f hi hmt hm H locs ls hP hD hS hl
    refine lv_iload_n S.1 S.2.1 dX5_isWord_23 rfl (lv_at hl 0 rfl) ?_
    refine lv_aload_n S.1 S.2.1 dX5_isWord_24 rfl (lv_at hl 2 rfl) ?_
    refine b_ai (wr := [(tp, .inr (5, [.ref by_, .int tz, .int ts, .int ta, .int tb, .int tv])), (by_, .inl (cI, 400, .inl f))]) (b_runT (wi := 3) (As := []) (by decide) (s_J0_length_8abf5_3 l D cI cZ cC cS sq H.size ) S gX5_isWord_J0_length_8abf5 rfl hdV_J0_length_8abf5 ⟨Nat.le_of_ble_eq_true rfl, Nat.le_of_ble_eq_true rfl⟩ ⟨Nat.le_of_ble_eq_true rfl, Nat.le_of_ble_eq_true rfl⟩ hK hT hS hA hP hD [] rfl (by decide) rfl hl.1 rfl (Nat.le_of_ble_eq_true rfl) dX5_isWord_25) hP hD hS hA [] [0, 1] rfl rfl (by decide) (by decide) (fun r_101 w_102 H locs hw_103 hP hD hS => ?_)
    obtain ⟨rfl, rfl⟩ := hw_103
    have hP : va_P D vwCl [(tp, .inr (5, [.ref by_, .int tz, .int ts, .int ta, .int tb, .int tv])), (by_, .inl (cI, 400, .inl f))] H := hP
    have hD : va_D A [(tp, .inr (5, [.ref by_, .int tz, .int ts, .int ta, .int tb, .int tv])), (by_, .inl (cI, 400, .inl f))] := hD
    refine lv_icmp_ge (tgt := 58) S.1 S.2.1 dX5_isWord_28 (by decide) (fun c_104 => ?_) (fun c_104 => ?_)
    · rw [le2 (a := 6) (b := i) (A := 6) (B := i.toInt) rfl rfl] at c_104
      exact K i (by first | with_reducible assumption | assumption | omega | decide | (rw [show Int32.toInt 0 = 0 from rfl]; omega)) (by first | with_reducible assumption | decide | (and_intros <;> first | with_reducible assumption | (intros; refine Int.le_antisymm ?_ ?_ <;> omega) | omega) | assumption | (rw [show Int32.toInt 0 = 0 from rfl]; omega)) (by first | assumption | exact mtw_st hmt (by first | with_reducible assumption | assumption) (by have y := ht3.1; omega) (by first | (and_intros <;> first | with_reducible assumption | (refine Int.le_antisymm ?_ ?_ <;> omega) | omega) | omega) (by first | (and_intros <;> first | with_reducible assumption | (refine Int.le_antisymm ?_ ?_ <;> omega) | omega) | omega) (by first | with_reducible assumption | assumption) (by first | (and_intros <;> first | with_reducible assumption | (refine Int.le_antisymm ?_ ?_ <;> omega) | omega) | omega)) (by first | with_reducible assumption | decide | (and_intros <;> first | with_reducible assumption | (intros; refine Int.le_antisymm ?_ ?_ <;> omega) | omega) | assumption | (rw [show Int32.toInt 0 = 0 from rfl]; omega)) H _ ls hP hD hS (lv_sub hl [0, 1, 2] rfl)
    · rw [le2 (a := 6) (b := i) (A := 6) (B := i.toInt) rfl rfl] at c_104
      refine lv_aload_n S.1 S.2.1 dX5_isWord_31 rfl (lv_at hl 1 rfl) ?_
      refine b_get (v := .ref by_) S iX5 hK hP 0 rfl rfl 0 (by decide) (by decide +kernel) rfl dX5_isWord_32 ?_
      refine lv_aload_n S.1 S.2.1 dX5_isWord_35 rfl (lv_at hl 1 rfl) ?_
      refine b_get (v := .int ta) S iX5 hK hP 0 rfl rfl 3 (by decide) (by decide +kernel) rfl dX5_isWord_36 ?_
      refine lv_iload_n S.1 S.2.1 dX5_isWord_39 rfl (lv_at hl 0 rfl) ?_
      refine lv_iadd S.1 S.2.1 dX5_isWord_40 ?_
      refine lv_topi (fun x_105 ex_105 => ?_)
      have tx_105 : x_105.toInt = ta.toInt + (i.toInt) := addI (A := ta.toInt) (B := i.toInt) ex_105 rfl rfl (by  omega) (by  omega)
      have hin_106 : vp_in x_105 400 := (in_of (n := 400) (by  omega) (by  omega))
      refine va_iald S.1 S.2.1 hK.1 hP 1 0 rfl rfl hin_106 dX5_isWord_41 ?_
      refine lv_topi (fun x_107 ex_107 => ?_)
      have tx_107 := rng_get (x := x_107) (show rng f 400 (0) (255) by assumption) hin_106 ex_107
      have qx_107 := tx_get (n := tz.toInt) (i := x_105) (by first | (and_intros <;> first | with_reducible assumption | (refine Int.le_antisymm ?_ ?_ <;> omega) | omega) | omega) (by first | (and_intros <;> first | with_reducible assumption | (refine Int.le_antisymm ?_ ?_ <;> omega) | omega) | omega) ex_107
      refine lv_aload_n S.1 S.2.1 dX5_isWord_42 rfl (lv_at hl 2 rfl) ?_
      refine lv_iload_n S.1 S.2.1 dX5_isWord_43 rfl (lv_at hl 0 rfl) ?_
      refine b_ai (wr := [(tp, .inr (5, [.ref by_, .int tz, .int ts, .int ta, .int tb, .int tv])), (by_, .inl (cI, 400, .inl f))]) (b_runT (wi := 3) (As := [.int i]) (by decide) (s_J0_charAt_5068e_3 l D cI cZ cC cS sq H.size i (by first | with_reducible assumption | decide | (and_intros <;> first | with_reducible assumption | (intros; refine Int.le_antisymm ?_ ?_ <;> omega) | omega) | assumption | (rw [show Int32.toInt 0 = 0 from rfl]; omega))) S gX5_isWord_J0_charAt_5068e rfl hdV_J0_charAt_5068e ⟨Nat.le_of_ble_eq_true rfl, Nat.le_of_ble_eq_true rfl⟩ ⟨Nat.le_of_ble_eq_true rfl, Nat.le_of_ble_eq_true rfl⟩ hK hT hS hA hP hD [] rfl (by decide) rfl hl.1 rfl (Nat.le_of_ble_eq_true rfl) dX5_isWord_44) hP hD hS hA [] [0, 1] rfl rfl (by decide) (by decide) (fun r_108 w_109 H locs hw_110 hP hD hS => ?_)
      obtain ⟨hf_111, rfl⟩ := hw_110
      have hP : va_P D vwCl [(tp, .inr (5, [.ref by_, .int tz, .int ts, .int ta, .int tb, .int tv])), (by_, .inl (cI, 400, .inl f))] H := hP
      have hD : va_D A [(tp, .inr (5, [.ref by_, .int tz, .int ts, .int ta, .int tb, .int tv])), (by_, .inl (cI, 400, .inl f))] := hD
      refine lv_icmp_eq (tgt := 52) S.1 S.2.1 dX5_isWord_47 (by decide) (fun c_112 => ?_) (fun c_112 => ?_)
      · rw [eq2 (a := x_107) (b := r_108) (A := x_107.toInt) (B := r_108.toInt) rfl rfl] at c_112
        obtain ⟨x_113, ex_113⟩ : ∃ y : Int32, y = i + Int32.ofInt (1) := ⟨_, rfl⟩
        refine lv_iinc (v := x_113) (lv' := [(2, .int x_113), (0, .ref tp), (1, .ref (sq 13))]) S.1 S.2.1 dX5_isWord_52 hl (k := 0) rfl ex_113.symm (by decide) rfl (fun ls hl => ?_)
        have tx_113 : x_113.toInt = i.toInt + (1) := addI (A := i.toInt) (B := 1) ex_113 rfl rfl (by  omega) (by  omega)
        refine lv_goto (tgt := 23) S.1 S.2.1 dX5_isWord_55 (by decide) ?_
        exact ih x_113 (by first | with_reducible assumption | assumption | omega | decide | (rw [show Int32.toInt 0 = 0 from rfl]; omega)) (by first | with_reducible assumption | decide | (and_intros <;> first | with_reducible assumption | (intros; refine Int.le_antisymm ?_ ?_ <;> omega) | omega) | assumption | (rw [show Int32.toInt 0 = 0 from rfl]; omega)) (by first | assumption | exact mtw_st hmt (by first | with_reducible assumption | assumption) (by have y := ht3.1; omega) (by first | (and_intros <;> first | with_reducible assumption | (refine Int.le_antisymm ?_ ?_ <;> omega) | omega) | omega) (by first | (and_intros <;> first | with_reducible assumption | (refine Int.le_antisymm ?_ ?_ <;> omega) | omega) | omega) (by first | with_reducible assumption | assumption) (by first | (and_intros <;> first | with_reducible assumption | (refine Int.le_antisymm ?_ ?_ <;> omega) | omega) | omega)) (by first | (and_intros <;> first | with_reducible assumption | (refine Int.le_antisymm ?_ ?_ <;> omega) | omega) | omega) H _ ls hP hD hS (lv_sub hl [0, 1, 2] rfl)
      · rw [eq2 (a := x_107) (b := r_108) (A := x_107.toInt) (B := r_108.toInt) rfl rfl] at c_112
        refine lv_iconst (v := (0)) S.1 S.2.1 dX5_isWord_50 (by decide) ?_
        exact b_zret S.1 S.2.1 X.2.1 X.2.2.1 rfl hP hD hS (Or.inr (⟨(fun q => by have z := wn_3 q; have y1 := ht3.2.1; have y2 := ht3.2.2.1; have y3 := ht3.1; first | omega | exact mtw_no (i := i) z.2.2 (by first | with_reducible assumption | assumption) (by first | (and_intros <;> first | with_reducible assumption | (refine Int.le_antisymm ?_ ?_ <;> omega) | omega) | omega) (by first | (and_intros <;> first | with_reducible assumption | (refine Int.le_antisymm ?_ ?_ <;> omega) | omega) | omega) (by first | (and_intros <;> first | with_reducible assumption | (refine Int.le_antisymm ?_ ?_ <;> omega) | omega) | omega) (by first | with_reducible assumption | assumption) (by first | (and_intros <;> first | with_reducible assumption | (refine Int.le_antisymm ?_ ?_ <;> omega) | omega) | omega)), rfl, rfl⟩)) dX5_isWord_51
set_option maxHeartbeats 4000000 in
set_option maxRecDepth 100000 in
theorem s_X5_isWord_3 (l : Launch) (D : va_G) (cI cZ cC cS : ClassId) (sq : Nat → Nat) (sz : Nat) (tp : Nat) (by_ : Nat) (tz : Int32) (ts : Int32) (ta : Int32) (tb : Int32) (tv : Int32) (f : Nat → Int32) (a0 : Int) (hrg_f : rng f 400 (0) (255)) (hz : 0 ≤ tz.toInt ∧ tz.toInt ≤ 400) (ht1 : 0 ≤ ta.toInt ∧ ta.toInt ≤ tb.toInt ∧ tb.toInt ≤ tz.toInt) (ht3 : tok (tx f tz.toInt) a0 ts.toInt ta.toInt tb.toInt tv.toInt) : mI l yX5_isWord wsX5_isWord 4 160 D (tyW cI cZ cC cS) sq [(tp, .inr (5, [.ref by_, .int tz, .int ts, .int ta, .int tb, .int tv])), (by_, .inl (cI, 400, .inl f))] sz [.ref tp, .ref (sq 13)] (fun r w => ((tNm (tx f tz.toInt) a0 = wC 3) ∧ r = 1 ∧ w = [(tp, .inr (5, [.ref by_, .int tz, .int ts, .int ta, .int tb, .int tv])), (by_, .inl (cI, 400, .inl f))]) ∨ ((¬ tNm (tx f tz.toInt) a0 = wC 3) ∧ r = 0 ∧ w = [(tp, .inr (5, [.ref by_, .int tz, .int ts, .int ta, .int tb, .int tv])), (by_, .inl (cI, 400, .inl f))])) := by
  refine b_metI (cc := cX5_isWord) (maxL := 3) (ret := (some .boolean)) (by decide) rfl (Nat.le_of_ble_eq_true rfl) ?_
  intro p e s m below meth c ls A H X hsz hP hK hT hD hA hS hl
  have S : CallFix p m c cX5_isWord 3 s ([.ref tp, .ref (sq 13)] : List Value).toArray wsX5_isWord RX5 := X.1
  have hl : lv_has ls 3 [(0, .ref tp), (1, .ref (sq 13))] := hl
  have iX5 := jX5_isWord_X5
  refine lv_aload_n S.1 S.2.1 dX5_isWord_0 rfl (lv_at hl 0 rfl) ?_
  refine b_get (v := .int ts) S iX5 hK hP 0 rfl rfl 2 (by decide) (by decide +kernel) rfl dX5_isWord_1 ?_
  refine lv_iconst (v := (1)) S.1 S.2.1 dX5_isWord_4 (by decide) ?_
  refine lv_icmp_ne (tgt := 19) S.1 S.2.1 dX5_isWord_5 (by decide) (fun c_1 => ?_) (fun c_1 => ?_)
  · rw [eq2 (a := ts) (b := 1) (A := ts.toInt) (B := 1) rfl rfl] at c_1
    refine lv_iconst (v := (0)) S.1 S.2.1 dX5_isWord_19 (by decide) ?_
    exact b_zret S.1 S.2.1 X.2.1 X.2.2.1 rfl hP hD hS (Or.inr (⟨(fun q => by have z := wn_3 q; have y1 := ht3.2.1; have y2 := ht3.2.2.1; have y3 := ht3.1; first | omega | exact mtw_no (i := i) z.2.2 (by first | with_reducible assumption | assumption) (by first | (and_intros <;> first | with_reducible assumption | (refine Int.le_antisymm ?_ ?_ <;> omega) | omega) | omega) (by first | (and_intros <;> first | with_reducible assumption | (refine Int.le_antisymm ?_ ?_ <;> omega) | omega) | omega) (by first | (and_intros <;> first | with_reducible assumption | (refine Int.le_antisymm ?_ ?_ <;> omega) | omega) | omega) (by first | with_reducible assumption | assumption) (by first | (and_intros <;> first | with_reducible assumption | (refine Int.le_antisymm ?_ ?_ <;> omega) | omega) | omega)), rfl, rfl⟩)) dX5_isWord_20
  · rw [eq2 (a := ts) (b := 1) (A := ts.toInt) (B := 1) rfl rfl] at c_1
    refine lv_aload_n S.1 S.2.1 dX5_isWord_8 rfl (lv_at hl 0 rfl) ?_
    refine b_ai (wr := [(by_, .inl (cI, 400, .inl f))]) (b_runV (q0 := 0) (ci := 5) (As := []) (s_X5_length l D cI cZ cC cS sq H.size tp by_ tz ts ta tb tv (by first | with_reducible assumption | decide | (and_intros <;> first | with_reducible assumption | (intros; refine Int.le_antisymm ?_ ?_ <;> omega) | omega) | assumption | (rw [show Int32.toInt 0 = 0 from rfl]; omega))) S gX5_isWord_X5_length rfl hdV_X5_length ⟨Nat.le_of_ble_eq_true rfl, Nat.le_of_ble_eq_true rfl⟩ ⟨Nat.le_of_ble_eq_true rfl, Nat.le_of_ble_eq_true rfl⟩ hK hT hS hA hP hD rfl rfl [0] rfl (by decide) rfl hl.1 rfl (Nat.le_of_ble_eq_true rfl) dX5_isWord_9) hP hD hS hA [0] [1] rfl rfl (by decide) (by decide) (fun r_2 w_3 H locs hw_4 hP hD hS => ?_)
    obtain ⟨hf_5, rfl⟩ := hw_4
    have hP : va_P D vwCl [(by_, .inl (cI, 400, .inl f)), (tp, .inr (5, [.ref by_, .int tz, .int ts, .int ta, .int tb, .int tv]))] H := hP
    have hD : va_D A [(by_, .inl (cI, 400, .inl f)), (tp, .inr (5, [.ref by_, .int tz, .int ts, .int ta, .int tb, .int tv]))] := hD
    refine lv_aload_n S.1 S.2.1 dX5_isWord_12 rfl (lv_at hl 1 rfl) ?_
    refine b_ai (wr := [(by_, .inl (cI, 400, .inl f)), (tp, .inr (5, [.ref by_, .int tz, .int ts, .int ta, .int tb, .int tv]))]) (b_runT (wi := 3) (As := []) (by decide) (s_J0_length_8abf5_3 l D cI cZ cC cS sq H.size ) S gX5_isWord_J0_length_8abf5 rfl hdV_J0_length_8abf5 ⟨Nat.le_of_ble_eq_true rfl, Nat.le_of_ble_eq_true rfl⟩ ⟨Nat.le_of_ble_eq_true rfl, Nat.le_of_ble_eq_true rfl⟩ hK hT hS hA hP hD [] rfl (by decide) rfl hl.1 rfl (Nat.le_of_ble_eq_true rfl) dX5_isWord_13) hP hD hS hA [] [0, 1] rfl rfl (by decide) (by decide) (fun r_6 w_7 H locs hw_8 hP hD hS => ?_)
    obtain ⟨rfl, rfl⟩ := hw_8
    have hP : va_P D vwCl [(by_, .inl (cI, 400, .inl f)), (tp, .inr (5, [.ref by_, .int tz, .int ts, .int ta, .int tb, .int tv]))] H := hP
    have hD : va_D A [(by_, .inl (cI, 400, .inl f)), (tp, .inr (5, [.ref by_, .int tz, .int ts, .int ta, .int tb, .int tv]))] := hD
    refine lv_icmp_eq (tgt := 21) S.1 S.2.1 dX5_isWord_16 (by decide) (fun c_9 => ?_) (fun c_9 => ?_)
    · rw [eq2 (a := r_2) (b := 6) (A := r_2.toInt) (B := 6) rfl rfl] at c_9
      refine lv_iconst (v := (0)) S.1 S.2.1 dX5_isWord_21 (by decide) ?_
      refine lv_istore_n (lv' := [(2, .int 0), (0, .ref tp), (1, .ref (sq 13))]) S.1 S.2.1 dX5_isWord_22 rfl hl (by decide) rfl (fun ls hl => ?_)
      have hP := hP.sub (ws' := [(tp, .inr (5, [.ref by_, .int tz, .int ts, .int ta, .int tb, .int tv])), (by_, .inl (cI, 400, .inl f))]) [1, 0] rfl
      have hD := hD.sub (ws' := [(tp, .inr (5, [.ref by_, .int tz, .int ts, .int ta, .int tb, .int tv])), (by_, .inl (cI, 400, .inl f))]) [1, 0] (by decide) rfl
      refine lp_isWord3 l D cI cZ cC cS sq tp by_ tz ts ta tb tv f a0 hrg_f hz ht1 ht3 (by first | with_reducible assumption | decide | (and_intros <;> first | with_reducible assumption | (intros; refine Int.le_antisymm ?_ ?_ <;> omega) | omega) | assumption | (rw [show Int32.toInt 0 = 0 from rfl]; omega)) X hK hT hA (fun i_10 hi_11 hi_12 hi_13 hi_14 H locs ls hP hD hS hl => ?_) _ (0) (by first | with_reducible assumption | assumption | omega | decide | (rw [show Int32.toInt 0 = 0 from rfl]; omega)) (by first | with_reducible assumption | decide | (and_intros <;> first | with_reducible assumption | (intros; refine Int.le_antisymm ?_ ?_ <;> omega) | omega) | assumption | (rw [show Int32.toInt 0 = 0 from rfl]; omega)) (mtw_0 (by decide)) (Nat.lt_succ_self _) H _ ls hP hD hS (lv_sub hl [0, 1, 2] rfl)
      refine lv_iconst (v := (1)) S.1 S.2.1 dX5_isWord_58 (by decide) ?_
      exact b_zret S.1 S.2.1 X.2.1 X.2.2.1 rfl hP hD hS (Or.inl ⟨(wy_3 (tok_k ht3 (by first | with_reducible assumption | assumption)) (by have z := ht3.2.2.1; have y := ht3.1; omega) (mtw_sub (by first | with_reducible assumption | assumption) (by first | (and_intros <;> first | with_reducible assumption | (refine Int.le_antisymm ?_ ?_ <;> omega) | omega) | omega))), rfl, rfl⟩) dX5_isWord_59
    · rw [eq2 (a := r_2) (b := 6) (A := r_2.toInt) (B := 6) rfl rfl] at c_9
      refine lv_iconst (v := (0)) S.1 S.2.1 dX5_isWord_19 (by decide) ?_
      have hP := hP.sub (ws' := [(tp, .inr (5, [.ref by_, .int tz, .int ts, .int ta, .int tb, .int tv])), (by_, .inl (cI, 400, .inl f))]) [1, 0] rfl
      have hD := hD.sub (ws' := [(tp, .inr (5, [.ref by_, .int tz, .int ts, .int ta, .int tb, .int tv])), (by_, .inl (cI, 400, .inl f))]) [1, 0] (by decide) rfl
      exact b_zret S.1 S.2.1 X.2.1 X.2.2.1 rfl hP hD hS (Or.inr (⟨(fun q => by have z := wn_3 q; have y1 := ht3.2.1; have y2 := ht3.2.2.1; have y3 := ht3.1; first | omega | exact mtw_no (i := i) z.2.2 (by first | with_reducible assumption | assumption) (by first | (and_intros <;> first | with_reducible assumption | (refine Int.le_antisymm ?_ ?_ <;> omega) | omega) | omega) (by first | (and_intros <;> first | with_reducible assumption | (refine Int.le_antisymm ?_ ?_ <;> omega) | omega) | omega) (by first | (and_intros <;> first | with_reducible assumption | (refine Int.le_antisymm ?_ ?_ <;> omega) | omega) | omega) (by first | with_reducible assumption | assumption) (by first | (and_intros <;> first | with_reducible assumption | (refine Int.le_antisymm ?_ ?_ <;> omega) | omega) | omega)), rfl, rfl⟩)) dX5_isWord_20
set_option maxHeartbeats 4000000 in
set_option maxRecDepth 100000 in
theorem s_J0_coder_7d493_4 (l : Launch) (D : va_G) (cI cZ cC cS : ClassId) (sq : Nat → Nat) (sz : Nat)  : mI l yJ0_coder_7d493 wsJ0_coder_7d493 0 0 D (tyW cI cZ cC cS) sq [] sz [.ref (sq 14)] (fun r w => (r = 0 ∧ w = [])) := by
  refine b_metI (cc := cJ0_coder_7d493) (maxL := 1) (ret := (some .byte)) (by decide) rfl (Nat.le_of_ble_eq_true rfl) ?_
  intro p e s m below meth c ls A H X hsz hP hK hT hD hA hS hl
  have S : CallFix p m c cJ0_coder_7d493 1 s ([.ref (sq 14)] : List Value).toArray wsJ0_coder_7d493 RJ0 := X.1
  have hl : lv_has ls 1 [(0, .ref (sq 14))] := hl
  refine va_gets (C := "java/lang/String") S.1 S.2.1 hT.2.2.2.2.2.1 hS S.2.2.2.1 (S.2.2.2.2 (.fieldLink RJ0 38 "java/lang/String" "COMPACT_STRINGS" "Z") (by decide +kernel)) (fun _ h => h) dJ0_coder_7d493_0 ?_
  refine lv_if_eq (tgt := 13) S.1 S.2.1 dJ0_coder_7d493_3 (by decide) (fun c_1 => absurd c_1 (by decide)) (fun c_1 => ?_)
  refine lv_aload_n S.1 S.2.1 dJ0_coder_7d493_6 rfl (lv_at hl 0 rfl) ?_
  refine vk_getf S.1 S.2.1 (show va_OF "java/lang/String" "coder" "B" (.int 0) (sq 14) A s s.heap from (hT.2.2.2.2.2.2.2.1 4 (by decide)).2.1) hS S.2.2.2.1 (S.2.2.2.2 (.fieldLink RJ0 15 "java/lang/String" "coder" "B") (by decide +kernel)) (fun _ h => h) dJ0_coder_7d493_7 ?_
  refine lv_goto (tgt := 14) S.1 S.2.1 dJ0_coder_7d493_10 (by decide) ?_
  exact b_nret (ty := .byte) S.1 S.2.1 X.2.1 X.2.2.1 rfl hP hD hS ⟨rfl, rfl⟩ dJ0_coder_7d493_14
set_option maxHeartbeats 4000000 in
set_option maxRecDepth 100000 in
theorem s_J0_length_8abf5_4 (l : Launch) (D : va_G) (cI cZ cC cS : ClassId) (sq : Nat → Nat) (sz : Nat)  : mI l yJ0_length_8abf5 wsJ0_length_8abf5 1 40 D (tyW cI cZ cC cS) sq [] sz [.ref (sq 14)] (fun r w => (r = 5 ∧ w = [])) := by
  refine b_metI (cc := cJ0_length_8abf5) (maxL := 1) (ret := (some .int)) (by decide) rfl (Nat.le_of_ble_eq_true rfl) ?_
  intro p e s m below meth c ls A H X hsz hP hK hT hD hA hS hl
  have S : CallFix p m c cJ0_length_8abf5 1 s ([.ref (sq 14)] : List Value).toArray wsJ0_length_8abf5 RJ0 := X.1
  have hl : lv_has ls 1 [(0, .ref (sq 14))] := hl
  refine lv_aload_n S.1 S.2.1 dJ0_length_8abf5_0 rfl (lv_at hl 0 rfl) ?_
  refine vk_getf S.1 S.2.1 (show va_OF "java/lang/String" "value" "[B" (.ref (sq 24)) (sq 14) A s s.heap from (hT.2.2.2.2.2.2.2.1 4 (by decide)).2.2.1) hS S.2.2.2.1 (S.2.2.2.2 (.fieldLink RJ0 9 "java/lang/String" "value" "[B") (by decide +kernel)) (fun _ h => h) dJ0_length_8abf5_1 ?_
  refine va_tlen (v := 5) S.1 S.2.1 (show va_T .byte (sq 24) 5 (fun j => .int ((wordB.getD 4 []).getD j 0)) A s s.heap from (hT.2.2.2.2.2.2.2.1 4 (by decide)).2.2.2) hS rfl dJ0_length_8abf5_4 ?_
  refine lv_aload_n S.1 S.2.1 dJ0_length_8abf5_5 rfl (lv_at hl 0 rfl) ?_
  refine b_ai (wr := []) (b_runT (wi := 4) (As := []) (by decide) (s_J0_coder_7d493_4 l D cI cZ cC cS sq H.size ) S gJ0_length_8abf5_J0_coder_7d493 rfl hdV_J0_coder_7d493 ⟨Nat.le_of_ble_eq_true rfl, Nat.le_of_ble_eq_true rfl⟩ ⟨Nat.le_of_ble_eq_true rfl, Nat.le_of_ble_eq_true rfl⟩ hK hT hS hA hP hD [] rfl (by decide) rfl hl.1 rfl (Nat.le_of_ble_eq_true rfl) dJ0_length_8abf5_6) hP hD hS hA [] [] rfl rfl (by decide) (by decide) (fun r_1 w_2 H locs hw_3 hP hD hS => ?_)
  obtain ⟨rfl, rfl⟩ := hw_3
  refine lv_ishr S.1 S.2.1 dJ0_length_8abf5_9 ?_
  refine lv_topi (fun x_4 ex_4 => ?_)
  have ex_4 : x_4 = 5 := by rw [ex_4]; decide
  subst ex_4
  exact b_iret S.1 S.2.1 X.2.1 X.2.2.1 hP hD hS ⟨rfl, rfl⟩ dJ0_length_8abf5_10
set_option maxHeartbeats 4000000 in
set_option maxRecDepth 100000 in
theorem s_J0_isLatin1_aae02_4 (l : Launch) (D : va_G) (cI cZ cC cS : ClassId) (sq : Nat → Nat) (sz : Nat)  : mI l yJ0_isLatin1_aae02 wsJ0_isLatin1_aae02 0 0 D (tyW cI cZ cC cS) sq [] sz [.ref (sq 14)] (fun r w => (r = 1 ∧ w = [])) := by
  refine b_metI (cc := cJ0_isLatin1_aae02) (maxL := 1) (ret := (some .boolean)) (by decide) rfl (Nat.le_of_ble_eq_true rfl) ?_
  intro p e s m below meth c ls A H X hsz hP hK hT hD hA hS hl
  have S : CallFix p m c cJ0_isLatin1_aae02 1 s ([.ref (sq 14)] : List Value).toArray wsJ0_isLatin1_aae02 RJ0 := X.1
  have hl : lv_has ls 1 [(0, .ref (sq 14))] := hl
  refine va_gets (C := "java/lang/String") S.1 S.2.1 hT.2.2.2.2.2.1 hS S.2.2.2.1 (S.2.2.2.2 (.fieldLink RJ0 38 "java/lang/String" "COMPACT_STRINGS" "Z") (by decide +kernel)) (fun _ h => h) dJ0_isLatin1_aae02_0 ?_
  refine lv_if_eq (tgt := 17) S.1 S.2.1 dJ0_isLatin1_aae02_3 (by decide) (fun c_1 => absurd c_1 (by decide)) (fun c_1 => ?_)
  refine lv_aload_n S.1 S.2.1 dJ0_isLatin1_aae02_6 rfl (lv_at hl 0 rfl) ?_
  refine vk_getf S.1 S.2.1 (show va_OF "java/lang/String" "coder" "B" (.int 0) (sq 14) A s s.heap from (hT.2.2.2.2.2.2.2.1 4 (by decide)).2.1) hS S.2.2.2.1 (S.2.2.2.2 (.fieldLink RJ0 15 "java/lang/String" "coder" "B") (by decide +kernel)) (fun _ h => h) dJ0_isLatin1_aae02_7 ?_
  refine lv_if_ne (tgt := 17) S.1 S.2.1 dJ0_isLatin1_aae02_10 (by decide) (fun c_2 => absurd c_2 (by decide)) (fun c_2 => ?_)
  refine lv_iconst (v := (1)) S.1 S.2.1 dJ0_isLatin1_aae02_13 (by decide) ?_
  refine lv_goto (tgt := 18) S.1 S.2.1 dJ0_isLatin1_aae02_14 (by decide) ?_
  exact b_zret S.1 S.2.1 X.2.1 X.2.2.1 rfl hP hD hS ⟨rfl, rfl⟩ dJ0_isLatin1_aae02_18
set_option maxHeartbeats 4000000 in
set_option maxRecDepth 100000 in
theorem s_J1_charAt_3b067_4 (l : Launch) (D : va_G) (cI cZ cC cS : ClassId) (sq : Nat → Nat) (sz : Nat) (i : Int32) (hi : 0 ≤ i.toInt ∧ i.toInt < 5) : mI l yJ1_charAt_3b067 wsJ1_charAt_3b067 2 80 D (tyW cI cZ cC cS) sq [] sz [.ref (sq 24), .int i] (fun r w => ((r = (wordB.getD 4 []).getD i.toNatClampNeg 0) ∧ w = [])) := by
  refine b_metI (cc := cJ1_charAt_3b067) (maxL := 2) (ret := (some .char)) (by decide) rfl (Nat.le_of_ble_eq_true rfl) ?_
  intro p e s m below meth c ls A H X hsz hP hK hT hD hA hS hl
  have S : CallFix p m c cJ1_charAt_3b067 2 s ([.ref (sq 24), .int i] : List Value).toArray wsJ1_charAt_3b067 RJ1 := X.1
  have hl : lv_has ls 2 [(0, .ref (sq 24)), (1, .int i)] := hl
  refine lv_iload_n S.1 S.2.1 dJ1_charAt_3b067_0 rfl (lv_at hl 1 rfl) ?_
  refine lv_aload_n S.1 S.2.1 dJ1_charAt_3b067_1 rfl (lv_at hl 0 rfl) ?_
  refine va_tlen (v := 5) S.1 S.2.1 (show va_T .byte (sq 24) 5 (fun j => .int ((wordB.getD 4 []).getD j 0)) A s s.heap from (hT.2.2.2.2.2.2.2.1 4 (by decide)).2.2.2) hS rfl dJ1_charAt_3b067_2 ?_
  refine b_av (wr := []) (b_runS (As := [.int i, .int 5]) (s_J0_checkIndex_df160 l D cI cZ cC cS sq H.size i (5) (by first | with_reducible assumption | decide | (and_intros <;> first | with_reducible assumption | (intros; refine Int.le_antisymm ?_ ?_ <;> omega) | omega) | assumption | (rw [show Int32.toInt 0 = 0 from rfl]; omega))) S gJ1_charAt_3b067_J0_checkIndex_df160 rfl hdS_J0_checkIndex_df160 ⟨Nat.le_of_ble_eq_true rfl, Nat.le_of_ble_eq_true rfl⟩ ⟨Nat.le_of_ble_eq_true rfl, Nat.le_of_ble_eq_true rfl⟩ hK hT hS hA hP hD [] rfl (by decide) rfl hl.1 rfl (Nat.le_of_ble_eq_true rfl) dJ1_charAt_3b067_3) hP hD hS hA [] [] rfl rfl (by decide) (by decide) (fun w_2 H locs hw_3 hP hD hS => ?_)
  obtain rfl := hw_3
  refine lv_aload_n S.1 S.2.1 dJ1_charAt_3b067_6 rfl (lv_at hl 0 rfl) ?_
  refine lv_iload_n S.1 S.2.1 dJ1_charAt_3b067_7 rfl (lv_at hl 1 rfl) ?_
  refine va_tb (v := .int ((wordB.getD 4 []).getD i.toNatClampNeg 0)) S.1 S.2.1 (show va_T .byte (sq 24) 5 (fun j => .int ((wordB.getD 4 []).getD j 0)) A s s.heap from (hT.2.2.2.2.2.2.2.1 4 (by decide)).2.2.2) hS (in_of (n := 5) (by  omega) (by  omega)) rfl dJ1_charAt_3b067_8 ?_
  refine lv_topi (fun x_4 ex_4 => ?_)
  have gL := chG (k := 4) (n := 5) (by decide) rfl hi.1 hi.2 ex_4; have eL := ex_4
  refine lv_sipush (v := (255)) S.1 S.2.1 dJ1_charAt_3b067_9 (by decide) ?_
  refine lv_iand S.1 S.2.1 dJ1_charAt_3b067_12 ?_
  refine lv_topi (fun x_5 ex_5 => ?_)
  have eN := ex_5
  refine lv_i2c S.1 S.2.1 dJ1_charAt_3b067_13 rfl ?_
  refine lv_topi (fun x_6 ex_6 => ?_)
  have tL := (ex_6.trans (by rw [eN])).trans gL.1
  exact b_nret (ty := .char) S.1 S.2.1 X.2.1 X.2.2.1 (by rw [tL]; exact chN gL.2) hP hD hS ⟨(tL.trans eL), rfl⟩ dJ1_charAt_3b067_14
set_option maxHeartbeats 4000000 in
set_option maxRecDepth 100000 in
theorem s_J0_charAt_5068e_4 (l : Launch) (D : va_G) (cI cZ cC cS : ClassId) (sq : Nat → Nat) (sz : Nat) (i : Int32) (hi : 0 ≤ i.toInt ∧ i.toInt < 5) : mI l yJ0_charAt_5068e wsJ0_charAt_5068e 3 120 D (tyW cI cZ cC cS) sq [] sz [.ref (sq 14), .int i] (fun r w => ((r = (wordB.getD 4 []).getD i.toNatClampNeg 0) ∧ w = [])) := by
  refine b_metI (cc := cJ0_charAt_5068e) (maxL := 2) (ret := (some .char)) (by decide) rfl (Nat.le_of_ble_eq_true rfl) ?_
  intro p e s m below meth c ls A H X hsz hP hK hT hD hA hS hl
  have S : CallFix p m c cJ0_charAt_5068e 2 s ([.ref (sq 14), .int i] : List Value).toArray wsJ0_charAt_5068e RJ0 := X.1
  have hl : lv_has ls 2 [(0, .ref (sq 14)), (1, .int i)] := hl
  refine lv_aload_n S.1 S.2.1 dJ0_charAt_5068e_0 rfl (lv_at hl 0 rfl) ?_
  refine b_ai (wr := []) (b_runT (wi := 4) (As := []) (by decide) (s_J0_isLatin1_aae02_4 l D cI cZ cC cS sq H.size ) S gJ0_charAt_5068e_J0_isLatin1_aae02 rfl hdV_J0_isLatin1_aae02 ⟨Nat.le_of_ble_eq_true rfl, Nat.le_of_ble_eq_true rfl⟩ ⟨Nat.le_of_ble_eq_true rfl, Nat.le_of_ble_eq_true rfl⟩ hK hT hS hA hP hD [] rfl (by decide) rfl hl.1 rfl (Nat.le_of_ble_eq_true rfl) dJ0_charAt_5068e_1) hP hD hS hA [] [] rfl rfl (by decide) (by decide) (fun r_1 w_2 H locs hw_3 hP hD hS => ?_)
  obtain ⟨rfl, rfl⟩ := hw_3
  refine lv_if_eq (tgt := 16) S.1 S.2.1 dJ0_charAt_5068e_4 (by decide) (fun c_4 => absurd c_4 (by decide)) (fun c_4 => ?_)
  refine lv_aload_n S.1 S.2.1 dJ0_charAt_5068e_7 rfl (lv_at hl 0 rfl) ?_
  refine vk_getf S.1 S.2.1 (show va_OF "java/lang/String" "value" "[B" (.ref (sq 24)) (sq 14) A s s.heap from (hT.2.2.2.2.2.2.2.1 4 (by decide)).2.2.1) hS S.2.2.2.1 (S.2.2.2.2 (.fieldLink RJ0 9 "java/lang/String" "value" "[B") (by decide +kernel)) (fun _ h => h) dJ0_charAt_5068e_8 ?_
  refine lv_iload_n S.1 S.2.1 dJ0_charAt_5068e_11 rfl (lv_at hl 1 rfl) ?_
  refine b_ai (wr := []) (b_runS (As := [.ref (sq 24), .int i]) (s_J1_charAt_3b067_4 l D cI cZ cC cS sq H.size i (by first | with_reducible assumption | decide | (and_intros <;> first | with_reducible assumption | (intros; refine Int.le_antisymm ?_ ?_ <;> omega) | omega) | assumption | (rw [show Int32.toInt 0 = 0 from rfl]; omega))) S gJ0_charAt_5068e_J1_charAt_3b067 rfl hdS_J1_charAt_3b067 ⟨Nat.le_of_ble_eq_true rfl, Nat.le_of_ble_eq_true rfl⟩ ⟨Nat.le_of_ble_eq_true rfl, Nat.le_of_ble_eq_true rfl⟩ hK hT hS hA hP hD [] rfl (by decide) rfl hl.1 rfl (Nat.le_of_ble_eq_true rfl) dJ0_charAt_5068e_12) hP hD hS hA [] [] rfl rfl (by decide) (by decide) (fun r_5 w_6 H locs hw_7 hP hD hS => ?_)
  obtain ⟨hf_8, rfl⟩ := hw_7
  exact b_nret (ty := .char) S.1 S.2.1 X.2.1 X.2.2.1 (chN (chG (k := 4) (n := 5) (by decide) rfl hi.1 hi.2 (by first | with_reducible assumption | assumption)).2) hP hD hS ⟨(by first | with_reducible assumption | assumption | omega | decide | (rw [show Int32.toInt 0 = 0 from rfl]; omega)), rfl⟩ dJ0_charAt_5068e_15
set_option maxHeartbeats 4000000 in
set_option maxRecDepth 100000 in
theorem lp_isWord4 {p : Program} (l : Launch) {e : Env} {s : State} {m : MethodId} {below : List Frame} {meth : Method} {c : Code} (D : va_G) (cI cZ cC cS : ClassId) (sq : Nat → Nat) (tp : Nat) (by_ : Nat) (tz : Int32) (ts : Int32) (ta : Int32) (tb : Int32) (tv : Int32) (f : Nat → Int32) (a0 : Int) (hrg_f : rng f 400 (0) (255)) (hz : 0 ≤ tz.toInt ∧ tz.toInt ≤ 400) (ht1 : 0 ≤ ta.toInt ∧ ta.toInt ≤ tb.toInt ∧ tb.toInt ≤ tz.toInt) (ht3 : tok (tx f tz.toInt) a0 ts.toInt ta.toInt tb.toInt tv.toInt) (hln : tb.toInt - ta.toInt = 5) {A : Nat → Prop} (X : bX p s m meth c cX5_isWord 3 wsX5_isWord yX5_isWord (some .boolean) [.ref tp, .ref (sq 14)]) (hK : kW D (tyW cI cZ cC cS) sq s) (hT : sT sq A s s.heap) (hA : ∀ q, s.heap.size ≤ q → A q) (K : ∀ (i : Int32), (rng f 400 (0) (255)) → (0 ≤ i.toInt ∧ i.toInt ≤ 5) → (mtw (tx f tz.toInt) a0 4 i.toInt) → (5 ≤ i.toInt) → ∀ (H : Heap) (locs : List Loc) (ls : Array Slot), va_P D vwCl [(tp, .inr (5, [.ref by_, .int tz, .int ts, .int ta, .int tb, .int tv])), (by_, .inl (cI, 400, .inl f))] H → va_D A [(tp, .inr (5, [.ref by_, .int tz, .int ts, .int ta, .int tb, .int tv])), (by_, .inl (cI, 400, .inl f))] → va_S A s.heap H locs → lv_has ls 3 [(2, .int i), (0, .ref tp), (1, .ref (sq 14))] → W p l e (rmW 4 160 0 0) s m ([.ref tp, .ref (sq 14)] : List Value).toArray below meth c H locs 0 0 (MQ below (va_Qi (fun r w => ((tNm (tx f tz.toInt) a0 = wC 4) ∧ r = 1 ∧ w = [(tp, .inr (5, [.ref by_, .int tz, .int ts, .int ta, .int tb, .int tv])), (by_, .inl (cI, 400, .inl f))]) ∨ ((¬ tNm (tx f tz.toInt) a0 = wC 4) ∧ r = 0 ∧ w = [(tp, .inr (5, [.ref by_, .int tz, .int ts, .int ta, .int tb, .int tv])), (by_, .inl (cI, 400, .inl f))])) (wD D A) A) ([.ref tp, .ref (sq 14)] : List Value).toArray s 0 0 A) (F0 m 58 ls [])) : ∀ (mN : Nat) (i : Int32), (rng f 400 (0) (255)) → (0 ≤ i.toInt ∧ i.toInt ≤ 5) → (mtw (tx f tz.toInt) a0 4 i.toInt) → ((5 - i.toInt).toNat < mN) → ∀ (H : Heap) (locs : List Loc) (ls : Array Slot), va_P D vwCl [(tp, .inr (5, [.ref by_, .int tz, .int ts, .int ta, .int tb, .int tv])), (by_, .inl (cI, 400, .inl f))] H → va_D A [(tp, .inr (5, [.ref by_, .int tz, .int ts, .int ta, .int tb, .int tv])), (by_, .inl (cI, 400, .inl f))] → va_S A s.heap H locs → lv_has ls 3 [(2, .int i), (0, .ref tp), (1, .ref (sq 14))] → W p l e (rmW 4 160 0 0) s m ([.ref tp, .ref (sq 14)] : List Value).toArray below meth c H locs 0 0 (MQ below (va_Qi (fun r w => ((tNm (tx f tz.toInt) a0 = wC 4) ∧ r = 1 ∧ w = [(tp, .inr (5, [.ref by_, .int tz, .int ts, .int ta, .int tb, .int tv])), (by_, .inl (cI, 400, .inl f))]) ∨ ((¬ tNm (tx f tz.toInt) a0 = wC 4) ∧ r = 0 ∧ w = [(tp, .inr (5, [.ref by_, .int tz, .int ts, .int ta, .int tb, .int tv])), (by_, .inl (cI, 400, .inl f))])) (wD D A) A) ([.ref tp, .ref (sq 14)] : List Value).toArray s 0 0 A) (F0 m 23 ls []) := by
  have S : CallFix p m c cX5_isWord 3 s ([.ref tp, .ref (sq 14)] : List Value).toArray wsX5_isWord RX5 := X.1
  have iX5 := jX5_isWord_X5
  intro mN
  induction mN with
  | zero => intro i hrg_f hi hmt hm; exact absurd hm (Nat.not_lt_zero _)
  | succ mN ih =>
    intro i hrg_f hi hmt hm H locs ls hP hD hS hl
    refine lv_iload_n S.1 S.2.1 dX5_isWord_23 rfl (lv_at hl 0 rfl) ?_
    refine lv_aload_n S.1 S.2.1 dX5_isWord_24 rfl (lv_at hl 2 rfl) ?_
    refine b_ai (wr := [(tp, .inr (5, [.ref by_, .int tz, .int ts, .int ta, .int tb, .int tv])), (by_, .inl (cI, 400, .inl f))]) (b_runT (wi := 4) (As := []) (by decide) (s_J0_length_8abf5_4 l D cI cZ cC cS sq H.size ) S gX5_isWord_J0_length_8abf5 rfl hdV_J0_length_8abf5 ⟨Nat.le_of_ble_eq_true rfl, Nat.le_of_ble_eq_true rfl⟩ ⟨Nat.le_of_ble_eq_true rfl, Nat.le_of_ble_eq_true rfl⟩ hK hT hS hA hP hD [] rfl (by decide) rfl hl.1 rfl (Nat.le_of_ble_eq_true rfl) dX5_isWord_25) hP hD hS hA [] [0, 1] rfl rfl (by decide) (by decide) (fun r_101 w_102 H locs hw_103 hP hD hS => ?_)
    obtain ⟨rfl, rfl⟩ := hw_103
    have hP : va_P D vwCl [(tp, .inr (5, [.ref by_, .int tz, .int ts, .int ta, .int tb, .int tv])), (by_, .inl (cI, 400, .inl f))] H := hP
    have hD : va_D A [(tp, .inr (5, [.ref by_, .int tz, .int ts, .int ta, .int tb, .int tv])), (by_, .inl (cI, 400, .inl f))] := hD
    refine lv_icmp_ge (tgt := 58) S.1 S.2.1 dX5_isWord_28 (by decide) (fun c_104 => ?_) (fun c_104 => ?_)
    · rw [le2 (a := 5) (b := i) (A := 5) (B := i.toInt) rfl rfl] at c_104
      exact K i (by first | with_reducible assumption | assumption | omega | decide | (rw [show Int32.toInt 0 = 0 from rfl]; omega)) (by first | with_reducible assumption | decide | (and_intros <;> first | with_reducible assumption | (intros; refine Int.le_antisymm ?_ ?_ <;> omega) | omega) | assumption | (rw [show Int32.toInt 0 = 0 from rfl]; omega)) (by first | assumption | exact mtw_st hmt (by first | with_reducible assumption | assumption) (by have y := ht3.1; omega) (by first | (and_intros <;> first | with_reducible assumption | (refine Int.le_antisymm ?_ ?_ <;> omega) | omega) | omega) (by first | (and_intros <;> first | with_reducible assumption | (refine Int.le_antisymm ?_ ?_ <;> omega) | omega) | omega) (by first | with_reducible assumption | assumption) (by first | (and_intros <;> first | with_reducible assumption | (refine Int.le_antisymm ?_ ?_ <;> omega) | omega) | omega)) (by first | with_reducible assumption | decide | (and_intros <;> first | with_reducible assumption | (intros; refine Int.le_antisymm ?_ ?_ <;> omega) | omega) | assumption | (rw [show Int32.toInt 0 = 0 from rfl]; omega)) H _ ls hP hD hS (lv_sub hl [0, 1, 2] rfl)
    · rw [le2 (a := 5) (b := i) (A := 5) (B := i.toInt) rfl rfl] at c_104
      refine lv_aload_n S.1 S.2.1 dX5_isWord_31 rfl (lv_at hl 1 rfl) ?_
      refine b_get (v := .ref by_) S iX5 hK hP 0 rfl rfl 0 (by decide) (by decide +kernel) rfl dX5_isWord_32 ?_
      refine lv_aload_n S.1 S.2.1 dX5_isWord_35 rfl (lv_at hl 1 rfl) ?_
      refine b_get (v := .int ta) S iX5 hK hP 0 rfl rfl 3 (by decide) (by decide +kernel) rfl dX5_isWord_36 ?_
      refine lv_iload_n S.1 S.2.1 dX5_isWord_39 rfl (lv_at hl 0 rfl) ?_
      refine lv_iadd S.1 S.2.1 dX5_isWord_40 ?_
      refine lv_topi (fun x_105 ex_105 => ?_)
      have tx_105 : x_105.toInt = ta.toInt + (i.toInt) := addI (A := ta.toInt) (B := i.toInt) ex_105 rfl rfl (by  omega) (by  omega)
      have hin_106 : vp_in x_105 400 := (in_of (n := 400) (by  omega) (by  omega))
      refine va_iald S.1 S.2.1 hK.1 hP 1 0 rfl rfl hin_106 dX5_isWord_41 ?_
      refine lv_topi (fun x_107 ex_107 => ?_)
      have tx_107 := rng_get (x := x_107) (show rng f 400 (0) (255) by assumption) hin_106 ex_107
      have qx_107 := tx_get (n := tz.toInt) (i := x_105) (by first | (and_intros <;> first | with_reducible assumption | (refine Int.le_antisymm ?_ ?_ <;> omega) | omega) | omega) (by first | (and_intros <;> first | with_reducible assumption | (refine Int.le_antisymm ?_ ?_ <;> omega) | omega) | omega) ex_107
      refine lv_aload_n S.1 S.2.1 dX5_isWord_42 rfl (lv_at hl 2 rfl) ?_
      refine lv_iload_n S.1 S.2.1 dX5_isWord_43 rfl (lv_at hl 0 rfl) ?_
      refine b_ai (wr := [(tp, .inr (5, [.ref by_, .int tz, .int ts, .int ta, .int tb, .int tv])), (by_, .inl (cI, 400, .inl f))]) (b_runT (wi := 4) (As := [.int i]) (by decide) (s_J0_charAt_5068e_4 l D cI cZ cC cS sq H.size i (by first | with_reducible assumption | decide | (and_intros <;> first | with_reducible assumption | (intros; refine Int.le_antisymm ?_ ?_ <;> omega) | omega) | assumption | (rw [show Int32.toInt 0 = 0 from rfl]; omega))) S gX5_isWord_J0_charAt_5068e rfl hdV_J0_charAt_5068e ⟨Nat.le_of_ble_eq_true rfl, Nat.le_of_ble_eq_true rfl⟩ ⟨Nat.le_of_ble_eq_true rfl, Nat.le_of_ble_eq_true rfl⟩ hK hT hS hA hP hD [] rfl (by decide) rfl hl.1 rfl (Nat.le_of_ble_eq_true rfl) dX5_isWord_44) hP hD hS hA [] [0, 1] rfl rfl (by decide) (by decide) (fun r_108 w_109 H locs hw_110 hP hD hS => ?_)
      obtain ⟨hf_111, rfl⟩ := hw_110
      have hP : va_P D vwCl [(tp, .inr (5, [.ref by_, .int tz, .int ts, .int ta, .int tb, .int tv])), (by_, .inl (cI, 400, .inl f))] H := hP
      have hD : va_D A [(tp, .inr (5, [.ref by_, .int tz, .int ts, .int ta, .int tb, .int tv])), (by_, .inl (cI, 400, .inl f))] := hD
      refine lv_icmp_eq (tgt := 52) S.1 S.2.1 dX5_isWord_47 (by decide) (fun c_112 => ?_) (fun c_112 => ?_)
      · rw [eq2 (a := x_107) (b := r_108) (A := x_107.toInt) (B := r_108.toInt) rfl rfl] at c_112
        obtain ⟨x_113, ex_113⟩ : ∃ y : Int32, y = i + Int32.ofInt (1) := ⟨_, rfl⟩
        refine lv_iinc (v := x_113) (lv' := [(2, .int x_113), (0, .ref tp), (1, .ref (sq 14))]) S.1 S.2.1 dX5_isWord_52 hl (k := 0) rfl ex_113.symm (by decide) rfl (fun ls hl => ?_)
        have tx_113 : x_113.toInt = i.toInt + (1) := addI (A := i.toInt) (B := 1) ex_113 rfl rfl (by  omega) (by  omega)
        refine lv_goto (tgt := 23) S.1 S.2.1 dX5_isWord_55 (by decide) ?_
        exact ih x_113 (by first | with_reducible assumption | assumption | omega | decide | (rw [show Int32.toInt 0 = 0 from rfl]; omega)) (by first | with_reducible assumption | decide | (and_intros <;> first | with_reducible assumption | (intros; refine Int.le_antisymm ?_ ?_ <;> omega) | omega) | assumption | (rw [show Int32.toInt 0 = 0 from rfl]; omega)) (by first | assumption | exact mtw_st hmt (by first | with_reducible assumption | assumption) (by have y := ht3.1; omega) (by first | (and_intros <;> first | with_reducible assumption | (refine Int.le_antisymm ?_ ?_ <;> omega) | omega) | omega) (by first | (and_intros <;> first | with_reducible assumption | (refine Int.le_antisymm ?_ ?_ <;> omega) | omega) | omega) (by first | with_reducible assumption | assumption) (by first | (and_intros <;> first | with_reducible assumption | (refine Int.le_antisymm ?_ ?_ <;> omega) | omega) | omega)) (by first | (and_intros <;> first | with_reducible assumption | (refine Int.le_antisymm ?_ ?_ <;> omega) | omega) | omega) H _ ls hP hD hS (lv_sub hl [0, 1, 2] rfl)
      · rw [eq2 (a := x_107) (b := r_108) (A := x_107.toInt) (B := r_108.toInt) rfl rfl] at c_112
        refine lv_iconst (v := (0)) S.1 S.2.1 dX5_isWord_50 (by decide) ?_
        exact b_zret S.1 S.2.1 X.2.1 X.2.2.1 rfl hP hD hS (Or.inr (⟨(fun q => by have z := wn_4 q; have y1 := ht3.2.1; have y2 := ht3.2.2.1; have y3 := ht3.1; first | omega | exact mtw_no (i := i) z.2.2 (by first | with_reducible assumption | assumption) (by first | (and_intros <;> first | with_reducible assumption | (refine Int.le_antisymm ?_ ?_ <;> omega) | omega) | omega) (by first | (and_intros <;> first | with_reducible assumption | (refine Int.le_antisymm ?_ ?_ <;> omega) | omega) | omega) (by first | (and_intros <;> first | with_reducible assumption | (refine Int.le_antisymm ?_ ?_ <;> omega) | omega) | omega) (by first | with_reducible assumption | assumption) (by first | (and_intros <;> first | with_reducible assumption | (refine Int.le_antisymm ?_ ?_ <;> omega) | omega) | omega)), rfl, rfl⟩)) dX5_isWord_51
set_option maxHeartbeats 4000000 in
set_option maxRecDepth 100000 in
theorem s_X5_isWord_4 (l : Launch) (D : va_G) (cI cZ cC cS : ClassId) (sq : Nat → Nat) (sz : Nat) (tp : Nat) (by_ : Nat) (tz : Int32) (ts : Int32) (ta : Int32) (tb : Int32) (tv : Int32) (f : Nat → Int32) (a0 : Int) (hrg_f : rng f 400 (0) (255)) (hz : 0 ≤ tz.toInt ∧ tz.toInt ≤ 400) (ht1 : 0 ≤ ta.toInt ∧ ta.toInt ≤ tb.toInt ∧ tb.toInt ≤ tz.toInt) (ht3 : tok (tx f tz.toInt) a0 ts.toInt ta.toInt tb.toInt tv.toInt) : mI l yX5_isWord wsX5_isWord 4 160 D (tyW cI cZ cC cS) sq [(tp, .inr (5, [.ref by_, .int tz, .int ts, .int ta, .int tb, .int tv])), (by_, .inl (cI, 400, .inl f))] sz [.ref tp, .ref (sq 14)] (fun r w => ((tNm (tx f tz.toInt) a0 = wC 4) ∧ r = 1 ∧ w = [(tp, .inr (5, [.ref by_, .int tz, .int ts, .int ta, .int tb, .int tv])), (by_, .inl (cI, 400, .inl f))]) ∨ ((¬ tNm (tx f tz.toInt) a0 = wC 4) ∧ r = 0 ∧ w = [(tp, .inr (5, [.ref by_, .int tz, .int ts, .int ta, .int tb, .int tv])), (by_, .inl (cI, 400, .inl f))])) := by
  refine b_metI (cc := cX5_isWord) (maxL := 3) (ret := (some .boolean)) (by decide) rfl (Nat.le_of_ble_eq_true rfl) ?_
  intro p e s m below meth c ls A H X hsz hP hK hT hD hA hS hl
  have S : CallFix p m c cX5_isWord 3 s ([.ref tp, .ref (sq 14)] : List Value).toArray wsX5_isWord RX5 := X.1
  have hl : lv_has ls 3 [(0, .ref tp), (1, .ref (sq 14))] := hl
  have iX5 := jX5_isWord_X5
  refine lv_aload_n S.1 S.2.1 dX5_isWord_0 rfl (lv_at hl 0 rfl) ?_
  refine b_get (v := .int ts) S iX5 hK hP 0 rfl rfl 2 (by decide) (by decide +kernel) rfl dX5_isWord_1 ?_
  refine lv_iconst (v := (1)) S.1 S.2.1 dX5_isWord_4 (by decide) ?_
  refine lv_icmp_ne (tgt := 19) S.1 S.2.1 dX5_isWord_5 (by decide) (fun c_1 => ?_) (fun c_1 => ?_)
  · rw [eq2 (a := ts) (b := 1) (A := ts.toInt) (B := 1) rfl rfl] at c_1
    refine lv_iconst (v := (0)) S.1 S.2.1 dX5_isWord_19 (by decide) ?_
    exact b_zret S.1 S.2.1 X.2.1 X.2.2.1 rfl hP hD hS (Or.inr (⟨(fun q => by have z := wn_4 q; have y1 := ht3.2.1; have y2 := ht3.2.2.1; have y3 := ht3.1; first | omega | exact mtw_no (i := i) z.2.2 (by first | with_reducible assumption | assumption) (by first | (and_intros <;> first | with_reducible assumption | (refine Int.le_antisymm ?_ ?_ <;> omega) | omega) | omega) (by first | (and_intros <;> first | with_reducible assumption | (refine Int.le_antisymm ?_ ?_ <;> omega) | omega) | omega) (by first | (and_intros <;> first | with_reducible assumption | (refine Int.le_antisymm ?_ ?_ <;> omega) | omega) | omega) (by first | with_reducible assumption | assumption) (by first | (and_intros <;> first | with_reducible assumption | (refine Int.le_antisymm ?_ ?_ <;> omega) | omega) | omega)), rfl, rfl⟩)) dX5_isWord_20
  · rw [eq2 (a := ts) (b := 1) (A := ts.toInt) (B := 1) rfl rfl] at c_1
    refine lv_aload_n S.1 S.2.1 dX5_isWord_8 rfl (lv_at hl 0 rfl) ?_
    refine b_ai (wr := [(by_, .inl (cI, 400, .inl f))]) (b_runV (q0 := 0) (ci := 5) (As := []) (s_X5_length l D cI cZ cC cS sq H.size tp by_ tz ts ta tb tv (by first | with_reducible assumption | decide | (and_intros <;> first | with_reducible assumption | (intros; refine Int.le_antisymm ?_ ?_ <;> omega) | omega) | assumption | (rw [show Int32.toInt 0 = 0 from rfl]; omega))) S gX5_isWord_X5_length rfl hdV_X5_length ⟨Nat.le_of_ble_eq_true rfl, Nat.le_of_ble_eq_true rfl⟩ ⟨Nat.le_of_ble_eq_true rfl, Nat.le_of_ble_eq_true rfl⟩ hK hT hS hA hP hD rfl rfl [0] rfl (by decide) rfl hl.1 rfl (Nat.le_of_ble_eq_true rfl) dX5_isWord_9) hP hD hS hA [0] [1] rfl rfl (by decide) (by decide) (fun r_2 w_3 H locs hw_4 hP hD hS => ?_)
    obtain ⟨hf_5, rfl⟩ := hw_4
    have hP : va_P D vwCl [(by_, .inl (cI, 400, .inl f)), (tp, .inr (5, [.ref by_, .int tz, .int ts, .int ta, .int tb, .int tv]))] H := hP
    have hD : va_D A [(by_, .inl (cI, 400, .inl f)), (tp, .inr (5, [.ref by_, .int tz, .int ts, .int ta, .int tb, .int tv]))] := hD
    refine lv_aload_n S.1 S.2.1 dX5_isWord_12 rfl (lv_at hl 1 rfl) ?_
    refine b_ai (wr := [(by_, .inl (cI, 400, .inl f)), (tp, .inr (5, [.ref by_, .int tz, .int ts, .int ta, .int tb, .int tv]))]) (b_runT (wi := 4) (As := []) (by decide) (s_J0_length_8abf5_4 l D cI cZ cC cS sq H.size ) S gX5_isWord_J0_length_8abf5 rfl hdV_J0_length_8abf5 ⟨Nat.le_of_ble_eq_true rfl, Nat.le_of_ble_eq_true rfl⟩ ⟨Nat.le_of_ble_eq_true rfl, Nat.le_of_ble_eq_true rfl⟩ hK hT hS hA hP hD [] rfl (by decide) rfl hl.1 rfl (Nat.le_of_ble_eq_true rfl) dX5_isWord_13) hP hD hS hA [] [0, 1] rfl rfl (by decide) (by decide) (fun r_6 w_7 H locs hw_8 hP hD hS => ?_)
    obtain ⟨rfl, rfl⟩ := hw_8
    have hP : va_P D vwCl [(by_, .inl (cI, 400, .inl f)), (tp, .inr (5, [.ref by_, .int tz, .int ts, .int ta, .int tb, .int tv]))] H := hP
    have hD : va_D A [(by_, .inl (cI, 400, .inl f)), (tp, .inr (5, [.ref by_, .int tz, .int ts, .int ta, .int tb, .int tv]))] := hD
    refine lv_icmp_eq (tgt := 21) S.1 S.2.1 dX5_isWord_16 (by decide) (fun c_9 => ?_) (fun c_9 => ?_)
    · rw [eq2 (a := r_2) (b := 5) (A := r_2.toInt) (B := 5) rfl rfl] at c_9
      refine lv_iconst (v := (0)) S.1 S.2.1 dX5_isWord_21 (by decide) ?_
      refine lv_istore_n (lv' := [(2, .int 0), (0, .ref tp), (1, .ref (sq 14))]) S.1 S.2.1 dX5_isWord_22 rfl hl (by decide) rfl (fun ls hl => ?_)
      have hP := hP.sub (ws' := [(tp, .inr (5, [.ref by_, .int tz, .int ts, .int ta, .int tb, .int tv])), (by_, .inl (cI, 400, .inl f))]) [1, 0] rfl
      have hD := hD.sub (ws' := [(tp, .inr (5, [.ref by_, .int tz, .int ts, .int ta, .int tb, .int tv])), (by_, .inl (cI, 400, .inl f))]) [1, 0] (by decide) rfl
      refine lp_isWord4 l D cI cZ cC cS sq tp by_ tz ts ta tb tv f a0 hrg_f hz ht1 ht3 (by first | with_reducible assumption | decide | (and_intros <;> first | with_reducible assumption | (intros; refine Int.le_antisymm ?_ ?_ <;> omega) | omega) | assumption | (rw [show Int32.toInt 0 = 0 from rfl]; omega)) X hK hT hA (fun i_10 hi_11 hi_12 hi_13 hi_14 H locs ls hP hD hS hl => ?_) _ (0) (by first | with_reducible assumption | assumption | omega | decide | (rw [show Int32.toInt 0 = 0 from rfl]; omega)) (by first | with_reducible assumption | decide | (and_intros <;> first | with_reducible assumption | (intros; refine Int.le_antisymm ?_ ?_ <;> omega) | omega) | assumption | (rw [show Int32.toInt 0 = 0 from rfl]; omega)) (mtw_0 (by decide)) (Nat.lt_succ_self _) H _ ls hP hD hS (lv_sub hl [0, 1, 2] rfl)
      refine lv_iconst (v := (1)) S.1 S.2.1 dX5_isWord_58 (by decide) ?_
      exact b_zret S.1 S.2.1 X.2.1 X.2.2.1 rfl hP hD hS (Or.inl ⟨(wy_4 (tok_k ht3 (by first | with_reducible assumption | assumption)) (by have z := ht3.2.2.1; have y := ht3.1; omega) (mtw_sub (by first | with_reducible assumption | assumption) (by first | (and_intros <;> first | with_reducible assumption | (refine Int.le_antisymm ?_ ?_ <;> omega) | omega) | omega))), rfl, rfl⟩) dX5_isWord_59
    · rw [eq2 (a := r_2) (b := 5) (A := r_2.toInt) (B := 5) rfl rfl] at c_9
      refine lv_iconst (v := (0)) S.1 S.2.1 dX5_isWord_19 (by decide) ?_
      have hP := hP.sub (ws' := [(tp, .inr (5, [.ref by_, .int tz, .int ts, .int ta, .int tb, .int tv])), (by_, .inl (cI, 400, .inl f))]) [1, 0] rfl
      have hD := hD.sub (ws' := [(tp, .inr (5, [.ref by_, .int tz, .int ts, .int ta, .int tb, .int tv])), (by_, .inl (cI, 400, .inl f))]) [1, 0] (by decide) rfl
      exact b_zret S.1 S.2.1 X.2.1 X.2.2.1 rfl hP hD hS (Or.inr (⟨(fun q => by have z := wn_4 q; have y1 := ht3.2.1; have y2 := ht3.2.2.1; have y3 := ht3.1; first | omega | exact mtw_no (i := i) z.2.2 (by first | with_reducible assumption | assumption) (by first | (and_intros <;> first | with_reducible assumption | (refine Int.le_antisymm ?_ ?_ <;> omega) | omega) | omega) (by first | (and_intros <;> first | with_reducible assumption | (refine Int.le_antisymm ?_ ?_ <;> omega) | omega) | omega) (by first | (and_intros <;> first | with_reducible assumption | (refine Int.le_antisymm ?_ ?_ <;> omega) | omega) | omega) (by first | with_reducible assumption | assumption) (by first | (and_intros <;> first | with_reducible assumption | (refine Int.le_antisymm ?_ ?_ <;> omega) | omega) | omega)), rfl, rfl⟩)) dX5_isWord_20
set_option maxHeartbeats 4000000 in
set_option maxRecDepth 100000 in
theorem s_J0_coder_7d493_5 (l : Launch) (D : va_G) (cI cZ cC cS : ClassId) (sq : Nat → Nat) (sz : Nat)  : mI l yJ0_coder_7d493 wsJ0_coder_7d493 0 0 D (tyW cI cZ cC cS) sq [] sz [.ref (sq 15)] (fun r w => (r = 0 ∧ w = [])) := by
  refine b_metI (cc := cJ0_coder_7d493) (maxL := 1) (ret := (some .byte)) (by decide) rfl (Nat.le_of_ble_eq_true rfl) ?_
  intro p e s m below meth c ls A H X hsz hP hK hT hD hA hS hl
  have S : CallFix p m c cJ0_coder_7d493 1 s ([.ref (sq 15)] : List Value).toArray wsJ0_coder_7d493 RJ0 := X.1
  have hl : lv_has ls 1 [(0, .ref (sq 15))] := hl
  refine va_gets (C := "java/lang/String") S.1 S.2.1 hT.2.2.2.2.2.1 hS S.2.2.2.1 (S.2.2.2.2 (.fieldLink RJ0 38 "java/lang/String" "COMPACT_STRINGS" "Z") (by decide +kernel)) (fun _ h => h) dJ0_coder_7d493_0 ?_
  refine lv_if_eq (tgt := 13) S.1 S.2.1 dJ0_coder_7d493_3 (by decide) (fun c_1 => absurd c_1 (by decide)) (fun c_1 => ?_)
  refine lv_aload_n S.1 S.2.1 dJ0_coder_7d493_6 rfl (lv_at hl 0 rfl) ?_
  refine vk_getf S.1 S.2.1 (show va_OF "java/lang/String" "coder" "B" (.int 0) (sq 15) A s s.heap from (hT.2.2.2.2.2.2.2.1 5 (by decide)).2.1) hS S.2.2.2.1 (S.2.2.2.2 (.fieldLink RJ0 15 "java/lang/String" "coder" "B") (by decide +kernel)) (fun _ h => h) dJ0_coder_7d493_7 ?_
  refine lv_goto (tgt := 14) S.1 S.2.1 dJ0_coder_7d493_10 (by decide) ?_
  exact b_nret (ty := .byte) S.1 S.2.1 X.2.1 X.2.2.1 rfl hP hD hS ⟨rfl, rfl⟩ dJ0_coder_7d493_14
set_option maxHeartbeats 4000000 in
set_option maxRecDepth 100000 in
theorem s_J0_length_8abf5_5 (l : Launch) (D : va_G) (cI cZ cC cS : ClassId) (sq : Nat → Nat) (sz : Nat)  : mI l yJ0_length_8abf5 wsJ0_length_8abf5 1 40 D (tyW cI cZ cC cS) sq [] sz [.ref (sq 15)] (fun r w => (r = 6 ∧ w = [])) := by
  refine b_metI (cc := cJ0_length_8abf5) (maxL := 1) (ret := (some .int)) (by decide) rfl (Nat.le_of_ble_eq_true rfl) ?_
  intro p e s m below meth c ls A H X hsz hP hK hT hD hA hS hl
  have S : CallFix p m c cJ0_length_8abf5 1 s ([.ref (sq 15)] : List Value).toArray wsJ0_length_8abf5 RJ0 := X.1
  have hl : lv_has ls 1 [(0, .ref (sq 15))] := hl
  refine lv_aload_n S.1 S.2.1 dJ0_length_8abf5_0 rfl (lv_at hl 0 rfl) ?_
  refine vk_getf S.1 S.2.1 (show va_OF "java/lang/String" "value" "[B" (.ref (sq 25)) (sq 15) A s s.heap from (hT.2.2.2.2.2.2.2.1 5 (by decide)).2.2.1) hS S.2.2.2.1 (S.2.2.2.2 (.fieldLink RJ0 9 "java/lang/String" "value" "[B") (by decide +kernel)) (fun _ h => h) dJ0_length_8abf5_1 ?_
  refine va_tlen (v := 6) S.1 S.2.1 (show va_T .byte (sq 25) 6 (fun j => .int ((wordB.getD 5 []).getD j 0)) A s s.heap from (hT.2.2.2.2.2.2.2.1 5 (by decide)).2.2.2) hS rfl dJ0_length_8abf5_4 ?_
  refine lv_aload_n S.1 S.2.1 dJ0_length_8abf5_5 rfl (lv_at hl 0 rfl) ?_
  refine b_ai (wr := []) (b_runT (wi := 5) (As := []) (by decide) (s_J0_coder_7d493_5 l D cI cZ cC cS sq H.size ) S gJ0_length_8abf5_J0_coder_7d493 rfl hdV_J0_coder_7d493 ⟨Nat.le_of_ble_eq_true rfl, Nat.le_of_ble_eq_true rfl⟩ ⟨Nat.le_of_ble_eq_true rfl, Nat.le_of_ble_eq_true rfl⟩ hK hT hS hA hP hD [] rfl (by decide) rfl hl.1 rfl (Nat.le_of_ble_eq_true rfl) dJ0_length_8abf5_6) hP hD hS hA [] [] rfl rfl (by decide) (by decide) (fun r_1 w_2 H locs hw_3 hP hD hS => ?_)
  obtain ⟨rfl, rfl⟩ := hw_3
  refine lv_ishr S.1 S.2.1 dJ0_length_8abf5_9 ?_
  refine lv_topi (fun x_4 ex_4 => ?_)
  have ex_4 : x_4 = 6 := by rw [ex_4]; decide
  subst ex_4
  exact b_iret S.1 S.2.1 X.2.1 X.2.2.1 hP hD hS ⟨rfl, rfl⟩ dJ0_length_8abf5_10
set_option maxHeartbeats 4000000 in
set_option maxRecDepth 100000 in
theorem s_J0_isLatin1_aae02_5 (l : Launch) (D : va_G) (cI cZ cC cS : ClassId) (sq : Nat → Nat) (sz : Nat)  : mI l yJ0_isLatin1_aae02 wsJ0_isLatin1_aae02 0 0 D (tyW cI cZ cC cS) sq [] sz [.ref (sq 15)] (fun r w => (r = 1 ∧ w = [])) := by
  refine b_metI (cc := cJ0_isLatin1_aae02) (maxL := 1) (ret := (some .boolean)) (by decide) rfl (Nat.le_of_ble_eq_true rfl) ?_
  intro p e s m below meth c ls A H X hsz hP hK hT hD hA hS hl
  have S : CallFix p m c cJ0_isLatin1_aae02 1 s ([.ref (sq 15)] : List Value).toArray wsJ0_isLatin1_aae02 RJ0 := X.1
  have hl : lv_has ls 1 [(0, .ref (sq 15))] := hl
  refine va_gets (C := "java/lang/String") S.1 S.2.1 hT.2.2.2.2.2.1 hS S.2.2.2.1 (S.2.2.2.2 (.fieldLink RJ0 38 "java/lang/String" "COMPACT_STRINGS" "Z") (by decide +kernel)) (fun _ h => h) dJ0_isLatin1_aae02_0 ?_
  refine lv_if_eq (tgt := 17) S.1 S.2.1 dJ0_isLatin1_aae02_3 (by decide) (fun c_1 => absurd c_1 (by decide)) (fun c_1 => ?_)
  refine lv_aload_n S.1 S.2.1 dJ0_isLatin1_aae02_6 rfl (lv_at hl 0 rfl) ?_
  refine vk_getf S.1 S.2.1 (show va_OF "java/lang/String" "coder" "B" (.int 0) (sq 15) A s s.heap from (hT.2.2.2.2.2.2.2.1 5 (by decide)).2.1) hS S.2.2.2.1 (S.2.2.2.2 (.fieldLink RJ0 15 "java/lang/String" "coder" "B") (by decide +kernel)) (fun _ h => h) dJ0_isLatin1_aae02_7 ?_
  refine lv_if_ne (tgt := 17) S.1 S.2.1 dJ0_isLatin1_aae02_10 (by decide) (fun c_2 => absurd c_2 (by decide)) (fun c_2 => ?_)
  refine lv_iconst (v := (1)) S.1 S.2.1 dJ0_isLatin1_aae02_13 (by decide) ?_
  refine lv_goto (tgt := 18) S.1 S.2.1 dJ0_isLatin1_aae02_14 (by decide) ?_
  exact b_zret S.1 S.2.1 X.2.1 X.2.2.1 rfl hP hD hS ⟨rfl, rfl⟩ dJ0_isLatin1_aae02_18
set_option maxHeartbeats 4000000 in
set_option maxRecDepth 100000 in
theorem s_J1_charAt_3b067_5 (l : Launch) (D : va_G) (cI cZ cC cS : ClassId) (sq : Nat → Nat) (sz : Nat) (i : Int32) (hi : 0 ≤ i.toInt ∧ i.toInt < 6) : mI l yJ1_charAt_3b067 wsJ1_charAt_3b067 2 80 D (tyW cI cZ cC cS) sq [] sz [.ref (sq 25), .int i] (fun r w => ((r = (wordB.getD 5 []).getD i.toNatClampNeg 0) ∧ w = [])) := by
  refine b_metI (cc := cJ1_charAt_3b067) (maxL := 2) (ret := (some .char)) (by decide) rfl (Nat.le_of_ble_eq_true rfl) ?_
  intro p e s m below meth c ls A H X hsz hP hK hT hD hA hS hl
  have S : CallFix p m c cJ1_charAt_3b067 2 s ([.ref (sq 25), .int i] : List Value).toArray wsJ1_charAt_3b067 RJ1 := X.1
  have hl : lv_has ls 2 [(0, .ref (sq 25)), (1, .int i)] := hl
  refine lv_iload_n S.1 S.2.1 dJ1_charAt_3b067_0 rfl (lv_at hl 1 rfl) ?_
  refine lv_aload_n S.1 S.2.1 dJ1_charAt_3b067_1 rfl (lv_at hl 0 rfl) ?_
  refine va_tlen (v := 6) S.1 S.2.1 (show va_T .byte (sq 25) 6 (fun j => .int ((wordB.getD 5 []).getD j 0)) A s s.heap from (hT.2.2.2.2.2.2.2.1 5 (by decide)).2.2.2) hS rfl dJ1_charAt_3b067_2 ?_
  refine b_av (wr := []) (b_runS (As := [.int i, .int 6]) (s_J0_checkIndex_df160 l D cI cZ cC cS sq H.size i (6) (by first | with_reducible assumption | decide | (and_intros <;> first | with_reducible assumption | (intros; refine Int.le_antisymm ?_ ?_ <;> omega) | omega) | assumption | (rw [show Int32.toInt 0 = 0 from rfl]; omega))) S gJ1_charAt_3b067_J0_checkIndex_df160 rfl hdS_J0_checkIndex_df160 ⟨Nat.le_of_ble_eq_true rfl, Nat.le_of_ble_eq_true rfl⟩ ⟨Nat.le_of_ble_eq_true rfl, Nat.le_of_ble_eq_true rfl⟩ hK hT hS hA hP hD [] rfl (by decide) rfl hl.1 rfl (Nat.le_of_ble_eq_true rfl) dJ1_charAt_3b067_3) hP hD hS hA [] [] rfl rfl (by decide) (by decide) (fun w_2 H locs hw_3 hP hD hS => ?_)
  obtain rfl := hw_3
  refine lv_aload_n S.1 S.2.1 dJ1_charAt_3b067_6 rfl (lv_at hl 0 rfl) ?_
  refine lv_iload_n S.1 S.2.1 dJ1_charAt_3b067_7 rfl (lv_at hl 1 rfl) ?_
  refine va_tb (v := .int ((wordB.getD 5 []).getD i.toNatClampNeg 0)) S.1 S.2.1 (show va_T .byte (sq 25) 6 (fun j => .int ((wordB.getD 5 []).getD j 0)) A s s.heap from (hT.2.2.2.2.2.2.2.1 5 (by decide)).2.2.2) hS (in_of (n := 6) (by  omega) (by  omega)) rfl dJ1_charAt_3b067_8 ?_
  refine lv_topi (fun x_4 ex_4 => ?_)
  have gL := chG (k := 5) (n := 6) (by decide) rfl hi.1 hi.2 ex_4; have eL := ex_4
  refine lv_sipush (v := (255)) S.1 S.2.1 dJ1_charAt_3b067_9 (by decide) ?_
  refine lv_iand S.1 S.2.1 dJ1_charAt_3b067_12 ?_
  refine lv_topi (fun x_5 ex_5 => ?_)
  have eN := ex_5
  refine lv_i2c S.1 S.2.1 dJ1_charAt_3b067_13 rfl ?_
  refine lv_topi (fun x_6 ex_6 => ?_)
  have tL := (ex_6.trans (by rw [eN])).trans gL.1
  exact b_nret (ty := .char) S.1 S.2.1 X.2.1 X.2.2.1 (by rw [tL]; exact chN gL.2) hP hD hS ⟨(tL.trans eL), rfl⟩ dJ1_charAt_3b067_14
set_option maxHeartbeats 4000000 in
set_option maxRecDepth 100000 in
theorem s_J0_charAt_5068e_5 (l : Launch) (D : va_G) (cI cZ cC cS : ClassId) (sq : Nat → Nat) (sz : Nat) (i : Int32) (hi : 0 ≤ i.toInt ∧ i.toInt < 6) : mI l yJ0_charAt_5068e wsJ0_charAt_5068e 3 120 D (tyW cI cZ cC cS) sq [] sz [.ref (sq 15), .int i] (fun r w => ((r = (wordB.getD 5 []).getD i.toNatClampNeg 0) ∧ w = [])) := by
  refine b_metI (cc := cJ0_charAt_5068e) (maxL := 2) (ret := (some .char)) (by decide) rfl (Nat.le_of_ble_eq_true rfl) ?_
  intro p e s m below meth c ls A H X hsz hP hK hT hD hA hS hl
  have S : CallFix p m c cJ0_charAt_5068e 2 s ([.ref (sq 15), .int i] : List Value).toArray wsJ0_charAt_5068e RJ0 := X.1
  have hl : lv_has ls 2 [(0, .ref (sq 15)), (1, .int i)] := hl
  refine lv_aload_n S.1 S.2.1 dJ0_charAt_5068e_0 rfl (lv_at hl 0 rfl) ?_
  refine b_ai (wr := []) (b_runT (wi := 5) (As := []) (by decide) (s_J0_isLatin1_aae02_5 l D cI cZ cC cS sq H.size ) S gJ0_charAt_5068e_J0_isLatin1_aae02 rfl hdV_J0_isLatin1_aae02 ⟨Nat.le_of_ble_eq_true rfl, Nat.le_of_ble_eq_true rfl⟩ ⟨Nat.le_of_ble_eq_true rfl, Nat.le_of_ble_eq_true rfl⟩ hK hT hS hA hP hD [] rfl (by decide) rfl hl.1 rfl (Nat.le_of_ble_eq_true rfl) dJ0_charAt_5068e_1) hP hD hS hA [] [] rfl rfl (by decide) (by decide) (fun r_1 w_2 H locs hw_3 hP hD hS => ?_)
  obtain ⟨rfl, rfl⟩ := hw_3
  refine lv_if_eq (tgt := 16) S.1 S.2.1 dJ0_charAt_5068e_4 (by decide) (fun c_4 => absurd c_4 (by decide)) (fun c_4 => ?_)
  refine lv_aload_n S.1 S.2.1 dJ0_charAt_5068e_7 rfl (lv_at hl 0 rfl) ?_
  refine vk_getf S.1 S.2.1 (show va_OF "java/lang/String" "value" "[B" (.ref (sq 25)) (sq 15) A s s.heap from (hT.2.2.2.2.2.2.2.1 5 (by decide)).2.2.1) hS S.2.2.2.1 (S.2.2.2.2 (.fieldLink RJ0 9 "java/lang/String" "value" "[B") (by decide +kernel)) (fun _ h => h) dJ0_charAt_5068e_8 ?_
  refine lv_iload_n S.1 S.2.1 dJ0_charAt_5068e_11 rfl (lv_at hl 1 rfl) ?_
  refine b_ai (wr := []) (b_runS (As := [.ref (sq 25), .int i]) (s_J1_charAt_3b067_5 l D cI cZ cC cS sq H.size i (by first | with_reducible assumption | decide | (and_intros <;> first | with_reducible assumption | (intros; refine Int.le_antisymm ?_ ?_ <;> omega) | omega) | assumption | (rw [show Int32.toInt 0 = 0 from rfl]; omega))) S gJ0_charAt_5068e_J1_charAt_3b067 rfl hdS_J1_charAt_3b067 ⟨Nat.le_of_ble_eq_true rfl, Nat.le_of_ble_eq_true rfl⟩ ⟨Nat.le_of_ble_eq_true rfl, Nat.le_of_ble_eq_true rfl⟩ hK hT hS hA hP hD [] rfl (by decide) rfl hl.1 rfl (Nat.le_of_ble_eq_true rfl) dJ0_charAt_5068e_12) hP hD hS hA [] [] rfl rfl (by decide) (by decide) (fun r_5 w_6 H locs hw_7 hP hD hS => ?_)
  obtain ⟨hf_8, rfl⟩ := hw_7
  exact b_nret (ty := .char) S.1 S.2.1 X.2.1 X.2.2.1 (chN (chG (k := 5) (n := 6) (by decide) rfl hi.1 hi.2 (by first | with_reducible assumption | assumption)).2) hP hD hS ⟨(by first | with_reducible assumption | assumption | omega | decide | (rw [show Int32.toInt 0 = 0 from rfl]; omega)), rfl⟩ dJ0_charAt_5068e_15
set_option maxHeartbeats 4000000 in
set_option maxRecDepth 100000 in
theorem lp_isWord5 {p : Program} (l : Launch) {e : Env} {s : State} {m : MethodId} {below : List Frame} {meth : Method} {c : Code} (D : va_G) (cI cZ cC cS : ClassId) (sq : Nat → Nat) (tp : Nat) (by_ : Nat) (tz : Int32) (ts : Int32) (ta : Int32) (tb : Int32) (tv : Int32) (f : Nat → Int32) (a0 : Int) (hrg_f : rng f 400 (0) (255)) (hz : 0 ≤ tz.toInt ∧ tz.toInt ≤ 400) (ht1 : 0 ≤ ta.toInt ∧ ta.toInt ≤ tb.toInt ∧ tb.toInt ≤ tz.toInt) (ht3 : tok (tx f tz.toInt) a0 ts.toInt ta.toInt tb.toInt tv.toInt) (hln : tb.toInt - ta.toInt = 6) {A : Nat → Prop} (X : bX p s m meth c cX5_isWord 3 wsX5_isWord yX5_isWord (some .boolean) [.ref tp, .ref (sq 15)]) (hK : kW D (tyW cI cZ cC cS) sq s) (hT : sT sq A s s.heap) (hA : ∀ q, s.heap.size ≤ q → A q) (K : ∀ (i : Int32), (rng f 400 (0) (255)) → (0 ≤ i.toInt ∧ i.toInt ≤ 6) → (mtw (tx f tz.toInt) a0 5 i.toInt) → (6 ≤ i.toInt) → ∀ (H : Heap) (locs : List Loc) (ls : Array Slot), va_P D vwCl [(tp, .inr (5, [.ref by_, .int tz, .int ts, .int ta, .int tb, .int tv])), (by_, .inl (cI, 400, .inl f))] H → va_D A [(tp, .inr (5, [.ref by_, .int tz, .int ts, .int ta, .int tb, .int tv])), (by_, .inl (cI, 400, .inl f))] → va_S A s.heap H locs → lv_has ls 3 [(2, .int i), (0, .ref tp), (1, .ref (sq 15))] → W p l e (rmW 4 160 0 0) s m ([.ref tp, .ref (sq 15)] : List Value).toArray below meth c H locs 0 0 (MQ below (va_Qi (fun r w => ((tNm (tx f tz.toInt) a0 = wC 5) ∧ r = 1 ∧ w = [(tp, .inr (5, [.ref by_, .int tz, .int ts, .int ta, .int tb, .int tv])), (by_, .inl (cI, 400, .inl f))]) ∨ ((¬ tNm (tx f tz.toInt) a0 = wC 5) ∧ r = 0 ∧ w = [(tp, .inr (5, [.ref by_, .int tz, .int ts, .int ta, .int tb, .int tv])), (by_, .inl (cI, 400, .inl f))])) (wD D A) A) ([.ref tp, .ref (sq 15)] : List Value).toArray s 0 0 A) (F0 m 58 ls [])) : ∀ (mN : Nat) (i : Int32), (rng f 400 (0) (255)) → (0 ≤ i.toInt ∧ i.toInt ≤ 6) → (mtw (tx f tz.toInt) a0 5 i.toInt) → ((6 - i.toInt).toNat < mN) → ∀ (H : Heap) (locs : List Loc) (ls : Array Slot), va_P D vwCl [(tp, .inr (5, [.ref by_, .int tz, .int ts, .int ta, .int tb, .int tv])), (by_, .inl (cI, 400, .inl f))] H → va_D A [(tp, .inr (5, [.ref by_, .int tz, .int ts, .int ta, .int tb, .int tv])), (by_, .inl (cI, 400, .inl f))] → va_S A s.heap H locs → lv_has ls 3 [(2, .int i), (0, .ref tp), (1, .ref (sq 15))] → W p l e (rmW 4 160 0 0) s m ([.ref tp, .ref (sq 15)] : List Value).toArray below meth c H locs 0 0 (MQ below (va_Qi (fun r w => ((tNm (tx f tz.toInt) a0 = wC 5) ∧ r = 1 ∧ w = [(tp, .inr (5, [.ref by_, .int tz, .int ts, .int ta, .int tb, .int tv])), (by_, .inl (cI, 400, .inl f))]) ∨ ((¬ tNm (tx f tz.toInt) a0 = wC 5) ∧ r = 0 ∧ w = [(tp, .inr (5, [.ref by_, .int tz, .int ts, .int ta, .int tb, .int tv])), (by_, .inl (cI, 400, .inl f))])) (wD D A) A) ([.ref tp, .ref (sq 15)] : List Value).toArray s 0 0 A) (F0 m 23 ls []) := by
  have S : CallFix p m c cX5_isWord 3 s ([.ref tp, .ref (sq 15)] : List Value).toArray wsX5_isWord RX5 := X.1
  have iX5 := jX5_isWord_X5
  intro mN
  induction mN with
  | zero => intro i hrg_f hi hmt hm; exact absurd hm (Nat.not_lt_zero _)
  | succ mN ih =>
    intro i hrg_f hi hmt hm H locs ls hP hD hS hl
    refine lv_iload_n S.1 S.2.1 dX5_isWord_23 rfl (lv_at hl 0 rfl) ?_
    refine lv_aload_n S.1 S.2.1 dX5_isWord_24 rfl (lv_at hl 2 rfl) ?_
    refine b_ai (wr := [(tp, .inr (5, [.ref by_, .int tz, .int ts, .int ta, .int tb, .int tv])), (by_, .inl (cI, 400, .inl f))]) (b_runT (wi := 5) (As := []) (by decide) (s_J0_length_8abf5_5 l D cI cZ cC cS sq H.size ) S gX5_isWord_J0_length_8abf5 rfl hdV_J0_length_8abf5 ⟨Nat.le_of_ble_eq_true rfl, Nat.le_of_ble_eq_true rfl⟩ ⟨Nat.le_of_ble_eq_true rfl, Nat.le_of_ble_eq_true rfl⟩ hK hT hS hA hP hD [] rfl (by decide) rfl hl.1 rfl (Nat.le_of_ble_eq_true rfl) dX5_isWord_25) hP hD hS hA [] [0, 1] rfl rfl (by decide) (by decide) (fun r_101 w_102 H locs hw_103 hP hD hS => ?_)
    obtain ⟨rfl, rfl⟩ := hw_103
    have hP : va_P D vwCl [(tp, .inr (5, [.ref by_, .int tz, .int ts, .int ta, .int tb, .int tv])), (by_, .inl (cI, 400, .inl f))] H := hP
    have hD : va_D A [(tp, .inr (5, [.ref by_, .int tz, .int ts, .int ta, .int tb, .int tv])), (by_, .inl (cI, 400, .inl f))] := hD
    refine lv_icmp_ge (tgt := 58) S.1 S.2.1 dX5_isWord_28 (by decide) (fun c_104 => ?_) (fun c_104 => ?_)
    · rw [le2 (a := 6) (b := i) (A := 6) (B := i.toInt) rfl rfl] at c_104
      exact K i (by first | with_reducible assumption | assumption | omega | decide | (rw [show Int32.toInt 0 = 0 from rfl]; omega)) (by first | with_reducible assumption | decide | (and_intros <;> first | with_reducible assumption | (intros; refine Int.le_antisymm ?_ ?_ <;> omega) | omega) | assumption | (rw [show Int32.toInt 0 = 0 from rfl]; omega)) (by first | assumption | exact mtw_st hmt (by first | with_reducible assumption | assumption) (by have y := ht3.1; omega) (by first | (and_intros <;> first | with_reducible assumption | (refine Int.le_antisymm ?_ ?_ <;> omega) | omega) | omega) (by first | (and_intros <;> first | with_reducible assumption | (refine Int.le_antisymm ?_ ?_ <;> omega) | omega) | omega) (by first | with_reducible assumption | assumption) (by first | (and_intros <;> first | with_reducible assumption | (refine Int.le_antisymm ?_ ?_ <;> omega) | omega) | omega)) (by first | with_reducible assumption | decide | (and_intros <;> first | with_reducible assumption | (intros; refine Int.le_antisymm ?_ ?_ <;> omega) | omega) | assumption | (rw [show Int32.toInt 0 = 0 from rfl]; omega)) H _ ls hP hD hS (lv_sub hl [0, 1, 2] rfl)
    · rw [le2 (a := 6) (b := i) (A := 6) (B := i.toInt) rfl rfl] at c_104
      refine lv_aload_n S.1 S.2.1 dX5_isWord_31 rfl (lv_at hl 1 rfl) ?_
      refine b_get (v := .ref by_) S iX5 hK hP 0 rfl rfl 0 (by decide) (by decide +kernel) rfl dX5_isWord_32 ?_
      refine lv_aload_n S.1 S.2.1 dX5_isWord_35 rfl (lv_at hl 1 rfl) ?_
      refine b_get (v := .int ta) S iX5 hK hP 0 rfl rfl 3 (by decide) (by decide +kernel) rfl dX5_isWord_36 ?_
      refine lv_iload_n S.1 S.2.1 dX5_isWord_39 rfl (lv_at hl 0 rfl) ?_
      refine lv_iadd S.1 S.2.1 dX5_isWord_40 ?_
      refine lv_topi (fun x_105 ex_105 => ?_)
      have tx_105 : x_105.toInt = ta.toInt + (i.toInt) := addI (A := ta.toInt) (B := i.toInt) ex_105 rfl rfl (by  omega) (by  omega)
      have hin_106 : vp_in x_105 400 := (in_of (n := 400) (by  omega) (by  omega))
      refine va_iald S.1 S.2.1 hK.1 hP 1 0 rfl rfl hin_106 dX5_isWord_41 ?_
      refine lv_topi (fun x_107 ex_107 => ?_)
      have tx_107 := rng_get (x := x_107) (show rng f 400 (0) (255) by assumption) hin_106 ex_107
      have qx_107 := tx_get (n := tz.toInt) (i := x_105) (by first | (and_intros <;> first | with_reducible assumption | (refine Int.le_antisymm ?_ ?_ <;> omega) | omega) | omega) (by first | (and_intros <;> first | with_reducible assumption | (refine Int.le_antisymm ?_ ?_ <;> omega) | omega) | omega) ex_107
      refine lv_aload_n S.1 S.2.1 dX5_isWord_42 rfl (lv_at hl 2 rfl) ?_
      refine lv_iload_n S.1 S.2.1 dX5_isWord_43 rfl (lv_at hl 0 rfl) ?_
      refine b_ai (wr := [(tp, .inr (5, [.ref by_, .int tz, .int ts, .int ta, .int tb, .int tv])), (by_, .inl (cI, 400, .inl f))]) (b_runT (wi := 5) (As := [.int i]) (by decide) (s_J0_charAt_5068e_5 l D cI cZ cC cS sq H.size i (by first | with_reducible assumption | decide | (and_intros <;> first | with_reducible assumption | (intros; refine Int.le_antisymm ?_ ?_ <;> omega) | omega) | assumption | (rw [show Int32.toInt 0 = 0 from rfl]; omega))) S gX5_isWord_J0_charAt_5068e rfl hdV_J0_charAt_5068e ⟨Nat.le_of_ble_eq_true rfl, Nat.le_of_ble_eq_true rfl⟩ ⟨Nat.le_of_ble_eq_true rfl, Nat.le_of_ble_eq_true rfl⟩ hK hT hS hA hP hD [] rfl (by decide) rfl hl.1 rfl (Nat.le_of_ble_eq_true rfl) dX5_isWord_44) hP hD hS hA [] [0, 1] rfl rfl (by decide) (by decide) (fun r_108 w_109 H locs hw_110 hP hD hS => ?_)
      obtain ⟨hf_111, rfl⟩ := hw_110
      have hP : va_P D vwCl [(tp, .inr (5, [.ref by_, .int tz, .int ts, .int ta, .int tb, .int tv])), (by_, .inl (cI, 400, .inl f))] H := hP
      have hD : va_D A [(tp, .inr (5, [.ref by_, .int tz, .int ts, .int ta, .int tb, .int tv])), (by_, .inl (cI, 400, .inl f))] := hD
      refine lv_icmp_eq (tgt := 52) S.1 S.2.1 dX5_isWord_47 (by decide) (fun c_112 => ?_) (fun c_112 => ?_)
      · rw [eq2 (a := x_107) (b := r_108) (A := x_107.toInt) (B := r_108.toInt) rfl rfl] at c_112
        obtain ⟨x_113, ex_113⟩ : ∃ y : Int32, y = i + Int32.ofInt (1) := ⟨_, rfl⟩
        refine lv_iinc (v := x_113) (lv' := [(2, .int x_113), (0, .ref tp), (1, .ref (sq 15))]) S.1 S.2.1 dX5_isWord_52 hl (k := 0) rfl ex_113.symm (by decide) rfl (fun ls hl => ?_)
        have tx_113 : x_113.toInt = i.toInt + (1) := addI (A := i.toInt) (B := 1) ex_113 rfl rfl (by  omega) (by  omega)
        refine lv_goto (tgt := 23) S.1 S.2.1 dX5_isWord_55 (by decide) ?_
        exact ih x_113 (by first | with_reducible assumption | assumption | omega | decide | (rw [show Int32.toInt 0 = 0 from rfl]; omega)) (by first | with_reducible assumption | decide | (and_intros <;> first | with_reducible assumption | (intros; refine Int.le_antisymm ?_ ?_ <;> omega) | omega) | assumption | (rw [show Int32.toInt 0 = 0 from rfl]; omega)) (by first | assumption | exact mtw_st hmt (by first | with_reducible assumption | assumption) (by have y := ht3.1; omega) (by first | (and_intros <;> first | with_reducible assumption | (refine Int.le_antisymm ?_ ?_ <;> omega) | omega) | omega) (by first | (and_intros <;> first | with_reducible assumption | (refine Int.le_antisymm ?_ ?_ <;> omega) | omega) | omega) (by first | with_reducible assumption | assumption) (by first | (and_intros <;> first | with_reducible assumption | (refine Int.le_antisymm ?_ ?_ <;> omega) | omega) | omega)) (by first | (and_intros <;> first | with_reducible assumption | (refine Int.le_antisymm ?_ ?_ <;> omega) | omega) | omega) H _ ls hP hD hS (lv_sub hl [0, 1, 2] rfl)
      · rw [eq2 (a := x_107) (b := r_108) (A := x_107.toInt) (B := r_108.toInt) rfl rfl] at c_112
        refine lv_iconst (v := (0)) S.1 S.2.1 dX5_isWord_50 (by decide) ?_
        exact b_zret S.1 S.2.1 X.2.1 X.2.2.1 rfl hP hD hS (Or.inr (⟨(fun q => by have z := wn_5 q; have y1 := ht3.2.1; have y2 := ht3.2.2.1; have y3 := ht3.1; first | omega | exact mtw_no (i := i) z.2.2 (by first | with_reducible assumption | assumption) (by first | (and_intros <;> first | with_reducible assumption | (refine Int.le_antisymm ?_ ?_ <;> omega) | omega) | omega) (by first | (and_intros <;> first | with_reducible assumption | (refine Int.le_antisymm ?_ ?_ <;> omega) | omega) | omega) (by first | (and_intros <;> first | with_reducible assumption | (refine Int.le_antisymm ?_ ?_ <;> omega) | omega) | omega) (by first | with_reducible assumption | assumption) (by first | (and_intros <;> first | with_reducible assumption | (refine Int.le_antisymm ?_ ?_ <;> omega) | omega) | omega)), rfl, rfl⟩)) dX5_isWord_51
set_option maxHeartbeats 4000000 in
set_option maxRecDepth 100000 in
theorem s_X5_isWord_5 (l : Launch) (D : va_G) (cI cZ cC cS : ClassId) (sq : Nat → Nat) (sz : Nat) (tp : Nat) (by_ : Nat) (tz : Int32) (ts : Int32) (ta : Int32) (tb : Int32) (tv : Int32) (f : Nat → Int32) (a0 : Int) (hrg_f : rng f 400 (0) (255)) (hz : 0 ≤ tz.toInt ∧ tz.toInt ≤ 400) (ht1 : 0 ≤ ta.toInt ∧ ta.toInt ≤ tb.toInt ∧ tb.toInt ≤ tz.toInt) (ht3 : tok (tx f tz.toInt) a0 ts.toInt ta.toInt tb.toInt tv.toInt) : mI l yX5_isWord wsX5_isWord 4 160 D (tyW cI cZ cC cS) sq [(tp, .inr (5, [.ref by_, .int tz, .int ts, .int ta, .int tb, .int tv])), (by_, .inl (cI, 400, .inl f))] sz [.ref tp, .ref (sq 15)] (fun r w => ((tNm (tx f tz.toInt) a0 = wC 5) ∧ r = 1 ∧ w = [(tp, .inr (5, [.ref by_, .int tz, .int ts, .int ta, .int tb, .int tv])), (by_, .inl (cI, 400, .inl f))]) ∨ ((¬ tNm (tx f tz.toInt) a0 = wC 5) ∧ r = 0 ∧ w = [(tp, .inr (5, [.ref by_, .int tz, .int ts, .int ta, .int tb, .int tv])), (by_, .inl (cI, 400, .inl f))])) := by
  refine b_metI (cc := cX5_isWord) (maxL := 3) (ret := (some .boolean)) (by decide) rfl (Nat.le_of_ble_eq_true rfl) ?_
  intro p e s m below meth c ls A H X hsz hP hK hT hD hA hS hl
  have S : CallFix p m c cX5_isWord 3 s ([.ref tp, .ref (sq 15)] : List Value).toArray wsX5_isWord RX5 := X.1
  have hl : lv_has ls 3 [(0, .ref tp), (1, .ref (sq 15))] := hl
  have iX5 := jX5_isWord_X5
  refine lv_aload_n S.1 S.2.1 dX5_isWord_0 rfl (lv_at hl 0 rfl) ?_
  refine b_get (v := .int ts) S iX5 hK hP 0 rfl rfl 2 (by decide) (by decide +kernel) rfl dX5_isWord_1 ?_
  refine lv_iconst (v := (1)) S.1 S.2.1 dX5_isWord_4 (by decide) ?_
  refine lv_icmp_ne (tgt := 19) S.1 S.2.1 dX5_isWord_5 (by decide) (fun c_1 => ?_) (fun c_1 => ?_)
  · rw [eq2 (a := ts) (b := 1) (A := ts.toInt) (B := 1) rfl rfl] at c_1
    refine lv_iconst (v := (0)) S.1 S.2.1 dX5_isWord_19 (by decide) ?_
    exact b_zret S.1 S.2.1 X.2.1 X.2.2.1 rfl hP hD hS (Or.inr (⟨(fun q => by have z := wn_5 q; have y1 := ht3.2.1; have y2 := ht3.2.2.1; have y3 := ht3.1; first | omega | exact mtw_no (i := i) z.2.2 (by first | with_reducible assumption | assumption) (by first | (and_intros <;> first | with_reducible assumption | (refine Int.le_antisymm ?_ ?_ <;> omega) | omega) | omega) (by first | (and_intros <;> first | with_reducible assumption | (refine Int.le_antisymm ?_ ?_ <;> omega) | omega) | omega) (by first | (and_intros <;> first | with_reducible assumption | (refine Int.le_antisymm ?_ ?_ <;> omega) | omega) | omega) (by first | with_reducible assumption | assumption) (by first | (and_intros <;> first | with_reducible assumption | (refine Int.le_antisymm ?_ ?_ <;> omega) | omega) | omega)), rfl, rfl⟩)) dX5_isWord_20
  · rw [eq2 (a := ts) (b := 1) (A := ts.toInt) (B := 1) rfl rfl] at c_1
    refine lv_aload_n S.1 S.2.1 dX5_isWord_8 rfl (lv_at hl 0 rfl) ?_
    refine b_ai (wr := [(by_, .inl (cI, 400, .inl f))]) (b_runV (q0 := 0) (ci := 5) (As := []) (s_X5_length l D cI cZ cC cS sq H.size tp by_ tz ts ta tb tv (by first | with_reducible assumption | decide | (and_intros <;> first | with_reducible assumption | (intros; refine Int.le_antisymm ?_ ?_ <;> omega) | omega) | assumption | (rw [show Int32.toInt 0 = 0 from rfl]; omega))) S gX5_isWord_X5_length rfl hdV_X5_length ⟨Nat.le_of_ble_eq_true rfl, Nat.le_of_ble_eq_true rfl⟩ ⟨Nat.le_of_ble_eq_true rfl, Nat.le_of_ble_eq_true rfl⟩ hK hT hS hA hP hD rfl rfl [0] rfl (by decide) rfl hl.1 rfl (Nat.le_of_ble_eq_true rfl) dX5_isWord_9) hP hD hS hA [0] [1] rfl rfl (by decide) (by decide) (fun r_2 w_3 H locs hw_4 hP hD hS => ?_)
    obtain ⟨hf_5, rfl⟩ := hw_4
    have hP : va_P D vwCl [(by_, .inl (cI, 400, .inl f)), (tp, .inr (5, [.ref by_, .int tz, .int ts, .int ta, .int tb, .int tv]))] H := hP
    have hD : va_D A [(by_, .inl (cI, 400, .inl f)), (tp, .inr (5, [.ref by_, .int tz, .int ts, .int ta, .int tb, .int tv]))] := hD
    refine lv_aload_n S.1 S.2.1 dX5_isWord_12 rfl (lv_at hl 1 rfl) ?_
    refine b_ai (wr := [(by_, .inl (cI, 400, .inl f)), (tp, .inr (5, [.ref by_, .int tz, .int ts, .int ta, .int tb, .int tv]))]) (b_runT (wi := 5) (As := []) (by decide) (s_J0_length_8abf5_5 l D cI cZ cC cS sq H.size ) S gX5_isWord_J0_length_8abf5 rfl hdV_J0_length_8abf5 ⟨Nat.le_of_ble_eq_true rfl, Nat.le_of_ble_eq_true rfl⟩ ⟨Nat.le_of_ble_eq_true rfl, Nat.le_of_ble_eq_true rfl⟩ hK hT hS hA hP hD [] rfl (by decide) rfl hl.1 rfl (Nat.le_of_ble_eq_true rfl) dX5_isWord_13) hP hD hS hA [] [0, 1] rfl rfl (by decide) (by decide) (fun r_6 w_7 H locs hw_8 hP hD hS => ?_)
    obtain ⟨rfl, rfl⟩ := hw_8
    have hP : va_P D vwCl [(by_, .inl (cI, 400, .inl f)), (tp, .inr (5, [.ref by_, .int tz, .int ts, .int ta, .int tb, .int tv]))] H := hP
    have hD : va_D A [(by_, .inl (cI, 400, .inl f)), (tp, .inr (5, [.ref by_, .int tz, .int ts, .int ta, .int tb, .int tv]))] := hD
    refine lv_icmp_eq (tgt := 21) S.1 S.2.1 dX5_isWord_16 (by decide) (fun c_9 => ?_) (fun c_9 => ?_)
    · rw [eq2 (a := r_2) (b := 6) (A := r_2.toInt) (B := 6) rfl rfl] at c_9
      refine lv_iconst (v := (0)) S.1 S.2.1 dX5_isWord_21 (by decide) ?_
      refine lv_istore_n (lv' := [(2, .int 0), (0, .ref tp), (1, .ref (sq 15))]) S.1 S.2.1 dX5_isWord_22 rfl hl (by decide) rfl (fun ls hl => ?_)
      have hP := hP.sub (ws' := [(tp, .inr (5, [.ref by_, .int tz, .int ts, .int ta, .int tb, .int tv])), (by_, .inl (cI, 400, .inl f))]) [1, 0] rfl
      have hD := hD.sub (ws' := [(tp, .inr (5, [.ref by_, .int tz, .int ts, .int ta, .int tb, .int tv])), (by_, .inl (cI, 400, .inl f))]) [1, 0] (by decide) rfl
      refine lp_isWord5 l D cI cZ cC cS sq tp by_ tz ts ta tb tv f a0 hrg_f hz ht1 ht3 (by first | with_reducible assumption | decide | (and_intros <;> first | with_reducible assumption | (intros; refine Int.le_antisymm ?_ ?_ <;> omega) | omega) | assumption | (rw [show Int32.toInt 0 = 0 from rfl]; omega)) X hK hT hA (fun i_10 hi_11 hi_12 hi_13 hi_14 H locs ls hP hD hS hl => ?_) _ (0) (by first | with_reducible assumption | assumption | omega | decide | (rw [show Int32.toInt 0 = 0 from rfl]; omega)) (by first | with_reducible assumption | decide | (and_intros <;> first | with_reducible assumption | (intros; refine Int.le_antisymm ?_ ?_ <;> omega) | omega) | assumption | (rw [show Int32.toInt 0 = 0 from rfl]; omega)) (mtw_0 (by decide)) (Nat.lt_succ_self _) H _ ls hP hD hS (lv_sub hl [0, 1, 2] rfl)
      refine lv_iconst (v := (1)) S.1 S.2.1 dX5_isWord_58 (by decide) ?_
      exact b_zret S.1 S.2.1 X.2.1 X.2.2.1 rfl hP hD hS (Or.inl ⟨(wy_5 (tok_k ht3 (by first | with_reducible assumption | assumption)) (by have z := ht3.2.2.1; have y := ht3.1; omega) (mtw_sub (by first | with_reducible assumption | assumption) (by first | (and_intros <;> first | with_reducible assumption | (refine Int.le_antisymm ?_ ?_ <;> omega) | omega) | omega))), rfl, rfl⟩) dX5_isWord_59
    · rw [eq2 (a := r_2) (b := 6) (A := r_2.toInt) (B := 6) rfl rfl] at c_9
      refine lv_iconst (v := (0)) S.1 S.2.1 dX5_isWord_19 (by decide) ?_
      have hP := hP.sub (ws' := [(tp, .inr (5, [.ref by_, .int tz, .int ts, .int ta, .int tb, .int tv])), (by_, .inl (cI, 400, .inl f))]) [1, 0] rfl
      have hD := hD.sub (ws' := [(tp, .inr (5, [.ref by_, .int tz, .int ts, .int ta, .int tb, .int tv])), (by_, .inl (cI, 400, .inl f))]) [1, 0] (by decide) rfl
      exact b_zret S.1 S.2.1 X.2.1 X.2.2.1 rfl hP hD hS (Or.inr (⟨(fun q => by have z := wn_5 q; have y1 := ht3.2.1; have y2 := ht3.2.2.1; have y3 := ht3.1; first | omega | exact mtw_no (i := i) z.2.2 (by first | with_reducible assumption | assumption) (by first | (and_intros <;> first | with_reducible assumption | (refine Int.le_antisymm ?_ ?_ <;> omega) | omega) | omega) (by first | (and_intros <;> first | with_reducible assumption | (refine Int.le_antisymm ?_ ?_ <;> omega) | omega) | omega) (by first | (and_intros <;> first | with_reducible assumption | (refine Int.le_antisymm ?_ ?_ <;> omega) | omega) | omega) (by first | with_reducible assumption | assumption) (by first | (and_intros <;> first | with_reducible assumption | (refine Int.le_antisymm ?_ ?_ <;> omega) | omega) | omega)), rfl, rfl⟩)) dX5_isWord_20
