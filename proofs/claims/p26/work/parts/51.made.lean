set_option maxRecDepth 20000 in
theorem gdX0_init_0 : decode cX0_init 0 = .ok (.aload_n 0, 1) ∧ decode cX0_init 1 = .ok (.invokespecial 3, 3) ∧ decode cX0_init 4 = .ok (.aload_n 0, 1) ∧ decode cX0_init 5 = .ok (.bipush 16, 2) ∧ decode cX0_init 7 = .ok (.newarray .int, 2) ∧ decode cX0_init 9 = .ok (.putfield 11, 3) ∧ decode cX0_init 12 = .ok (.aload_n 0, 1) ∧ decode cX0_init 13 = .ok (.iconst 0, 1) := by decide +kernel
theorem dX0_init_0 : decode cX0_init 0 = .ok (.aload_n 0, 1) := gdX0_init_0.1
theorem dX0_init_1 : decode cX0_init 1 = .ok (.invokespecial 3, 3) := gdX0_init_0.2.1
theorem dX0_init_4 : decode cX0_init 4 = .ok (.aload_n 0, 1) := gdX0_init_0.2.2.1
theorem dX0_init_5 : decode cX0_init 5 = .ok (.bipush 16, 2) := gdX0_init_0.2.2.2.1
theorem dX0_init_7 : decode cX0_init 7 = .ok (.newarray .int, 2) := gdX0_init_0.2.2.2.2.1
theorem dX0_init_9 : decode cX0_init 9 = .ok (.putfield 11, 3) := gdX0_init_0.2.2.2.2.2.1
theorem dX0_init_12 : decode cX0_init 12 = .ok (.aload_n 0, 1) := gdX0_init_0.2.2.2.2.2.2.1
theorem dX0_init_13 : decode cX0_init 13 = .ok (.iconst 0, 1) := gdX0_init_0.2.2.2.2.2.2.2
set_option maxRecDepth 20000 in
theorem gdX0_init_14 : decode cX0_init 14 = .ok (.putfield 15, 3) ∧ decode cX0_init 17 = .ok (.aload_n 0, 1) ∧ decode cX0_init 18 = .ok (.aload_n 1, 1) ∧ decode cX0_init 19 = .ok (.putfield 19, 3) ∧ decode cX0_init 22 = .ok (.return_, 1) := by decide +kernel
theorem dX0_init_14 : decode cX0_init 14 = .ok (.putfield 15, 3) := gdX0_init_14.1
theorem dX0_init_17 : decode cX0_init 17 = .ok (.aload_n 0, 1) := gdX0_init_14.2.1
theorem dX0_init_18 : decode cX0_init 18 = .ok (.aload_n 1, 1) := gdX0_init_14.2.2.1
theorem dX0_init_19 : decode cX0_init 19 = .ok (.putfield 19, 3) := gdX0_init_14.2.2.2.1
theorem dX0_init_22 : decode cX0_init 22 = .ok (.return_, 1) := gdX0_init_14.2.2.2.2
set_option maxRecDepth 20000 in
theorem gdX1_init_0 : decode cX1_init 0 = .ok (.aload_n 0, 1) ∧ decode cX1_init 1 = .ok (.invokespecial 3, 3) ∧ decode cX1_init 4 = .ok (.aload_n 0, 1) ∧ decode cX1_init 5 = .ok (.iconst 0, 1) ∧ decode cX1_init 6 = .ok (.putfield 9, 3) ∧ decode cX1_init 9 = .ok (.aload_n 0, 1) ∧ decode cX1_init 10 = .ok (.iconst 0, 1) ∧ decode cX1_init 11 = .ok (.putfield 15, 3) := by decide +kernel
theorem dX1_init_0 : decode cX1_init 0 = .ok (.aload_n 0, 1) := gdX1_init_0.1
theorem dX1_init_1 : decode cX1_init 1 = .ok (.invokespecial 3, 3) := gdX1_init_0.2.1
theorem dX1_init_4 : decode cX1_init 4 = .ok (.aload_n 0, 1) := gdX1_init_0.2.2.1
theorem dX1_init_5 : decode cX1_init 5 = .ok (.iconst 0, 1) := gdX1_init_0.2.2.2.1
theorem dX1_init_6 : decode cX1_init 6 = .ok (.putfield 9, 3) := gdX1_init_0.2.2.2.2.1
theorem dX1_init_9 : decode cX1_init 9 = .ok (.aload_n 0, 1) := gdX1_init_0.2.2.2.2.2.1
theorem dX1_init_10 : decode cX1_init 10 = .ok (.iconst 0, 1) := gdX1_init_0.2.2.2.2.2.2.1
theorem dX1_init_11 : decode cX1_init 11 = .ok (.putfield 15, 3) := gdX1_init_0.2.2.2.2.2.2.2
set_option maxRecDepth 20000 in
theorem gdX1_init_14 : decode cX1_init 14 = .ok (.aload_n 0, 1) ∧ decode cX1_init 15 = .ok (.iconst 0, 1) ∧ decode cX1_init 16 = .ok (.putfield 18, 3) ∧ decode cX1_init 19 = .ok (.aload_n 0, 1) ∧ decode cX1_init 20 = .ok (.bipush 80, 2) ∧ decode cX1_init 22 = .ok (.newarray .int, 2) ∧ decode cX1_init 24 = .ok (.putfield 21, 3) ∧ decode cX1_init 27 = .ok (.aload_n 0, 1) := by decide +kernel
theorem dX1_init_14 : decode cX1_init 14 = .ok (.aload_n 0, 1) := gdX1_init_14.1
theorem dX1_init_15 : decode cX1_init 15 = .ok (.iconst 0, 1) := gdX1_init_14.2.1
theorem dX1_init_16 : decode cX1_init 16 = .ok (.putfield 18, 3) := gdX1_init_14.2.2.1
theorem dX1_init_19 : decode cX1_init 19 = .ok (.aload_n 0, 1) := gdX1_init_14.2.2.2.1
theorem dX1_init_20 : decode cX1_init 20 = .ok (.bipush 80, 2) := gdX1_init_14.2.2.2.2.1
theorem dX1_init_22 : decode cX1_init 22 = .ok (.newarray .int, 2) := gdX1_init_14.2.2.2.2.2.1
theorem dX1_init_24 : decode cX1_init 24 = .ok (.putfield 21, 3) := gdX1_init_14.2.2.2.2.2.2.1
theorem dX1_init_27 : decode cX1_init 27 = .ok (.aload_n 0, 1) := gdX1_init_14.2.2.2.2.2.2.2
set_option maxRecDepth 20000 in
theorem gdX1_init_28 : decode cX1_init 28 = .ok (.bipush 6, 2) ∧ decode cX1_init 30 = .ok (.newarray .int, 2) ∧ decode cX1_init 32 = .ok (.putfield 25, 3) ∧ decode cX1_init 35 = .ok (.aload_n 0, 1) ∧ decode cX1_init 36 = .ok (.bipush 6, 2) ∧ decode cX1_init 38 = .ok (.newarray .int, 2) ∧ decode cX1_init 40 = .ok (.putfield 28, 3) ∧ decode cX1_init 43 = .ok (.aload_n 0, 1) := by decide +kernel
theorem dX1_init_28 : decode cX1_init 28 = .ok (.bipush 6, 2) := gdX1_init_28.1
theorem dX1_init_30 : decode cX1_init 30 = .ok (.newarray .int, 2) := gdX1_init_28.2.1
theorem dX1_init_32 : decode cX1_init 32 = .ok (.putfield 25, 3) := gdX1_init_28.2.2.1
theorem dX1_init_35 : decode cX1_init 35 = .ok (.aload_n 0, 1) := gdX1_init_28.2.2.2.1
theorem dX1_init_36 : decode cX1_init 36 = .ok (.bipush 6, 2) := gdX1_init_28.2.2.2.2.1
theorem dX1_init_38 : decode cX1_init 38 = .ok (.newarray .int, 2) := gdX1_init_28.2.2.2.2.2.1
theorem dX1_init_40 : decode cX1_init 40 = .ok (.putfield 28, 3) := gdX1_init_28.2.2.2.2.2.2.1
theorem dX1_init_43 : decode cX1_init 43 = .ok (.aload_n 0, 1) := gdX1_init_28.2.2.2.2.2.2.2
set_option maxRecDepth 20000 in
theorem gdX1_init_44 : decode cX1_init 44 = .ok (.bipush 6, 2) ∧ decode cX1_init 46 = .ok (.newarray .int, 2) ∧ decode cX1_init 48 = .ok (.putfield 31, 3) ∧ decode cX1_init 51 = .ok (.aload_n 0, 1) ∧ decode cX1_init 52 = .ok (.bipush 6, 2) ∧ decode cX1_init 54 = .ok (.newarray .int, 2) ∧ decode cX1_init 56 = .ok (.putfield 34, 3) ∧ decode cX1_init 59 = .ok (.aload_n 0, 1) := by decide +kernel
theorem dX1_init_44 : decode cX1_init 44 = .ok (.bipush 6, 2) := gdX1_init_44.1
theorem dX1_init_46 : decode cX1_init 46 = .ok (.newarray .int, 2) := gdX1_init_44.2.1
theorem dX1_init_48 : decode cX1_init 48 = .ok (.putfield 31, 3) := gdX1_init_44.2.2.1
theorem dX1_init_51 : decode cX1_init 51 = .ok (.aload_n 0, 1) := gdX1_init_44.2.2.2.1
theorem dX1_init_52 : decode cX1_init 52 = .ok (.bipush 6, 2) := gdX1_init_44.2.2.2.2.1
theorem dX1_init_54 : decode cX1_init 54 = .ok (.newarray .int, 2) := gdX1_init_44.2.2.2.2.2.1
theorem dX1_init_56 : decode cX1_init 56 = .ok (.putfield 34, 3) := gdX1_init_44.2.2.2.2.2.2.1
theorem dX1_init_59 : decode cX1_init 59 = .ok (.aload_n 0, 1) := gdX1_init_44.2.2.2.2.2.2.2
set_option maxRecDepth 20000 in
theorem gdX1_init_60 : decode cX1_init 60 = .ok (.bipush 6, 2) ∧ decode cX1_init 62 = .ok (.newarray .int, 2) ∧ decode cX1_init 64 = .ok (.putfield 37, 3) ∧ decode cX1_init 67 = .ok (.aload_n 0, 1) ∧ decode cX1_init 68 = .ok (.bipush 6, 2) ∧ decode cX1_init 70 = .ok (.newarray .int, 2) ∧ decode cX1_init 72 = .ok (.putfield 40, 3) ∧ decode cX1_init 75 = .ok (.aload_n 0, 1) := by decide +kernel
theorem dX1_init_60 : decode cX1_init 60 = .ok (.bipush 6, 2) := gdX1_init_60.1
theorem dX1_init_62 : decode cX1_init 62 = .ok (.newarray .int, 2) := gdX1_init_60.2.1
theorem dX1_init_64 : decode cX1_init 64 = .ok (.putfield 37, 3) := gdX1_init_60.2.2.1
theorem dX1_init_67 : decode cX1_init 67 = .ok (.aload_n 0, 1) := gdX1_init_60.2.2.2.1
theorem dX1_init_68 : decode cX1_init 68 = .ok (.bipush 6, 2) := gdX1_init_60.2.2.2.2.1
theorem dX1_init_70 : decode cX1_init 70 = .ok (.newarray .int, 2) := gdX1_init_60.2.2.2.2.2.1
theorem dX1_init_72 : decode cX1_init 72 = .ok (.putfield 40, 3) := gdX1_init_60.2.2.2.2.2.2.1
theorem dX1_init_75 : decode cX1_init 75 = .ok (.aload_n 0, 1) := gdX1_init_60.2.2.2.2.2.2.2
set_option maxRecDepth 20000 in
theorem gdX1_init_76 : decode cX1_init 76 = .ok (.bipush 36, 2) ∧ decode cX1_init 78 = .ok (.newarray .int, 2) ∧ decode cX1_init 80 = .ok (.putfield 43, 3) ∧ decode cX1_init 83 = .ok (.aload_n 0, 1) ∧ decode cX1_init 84 = .ok (.bipush 36, 2) ∧ decode cX1_init 86 = .ok (.newarray .int, 2) ∧ decode cX1_init 88 = .ok (.putfield 46, 3) ∧ decode cX1_init 91 = .ok (.return_, 1) := by decide +kernel
theorem dX1_init_76 : decode cX1_init 76 = .ok (.bipush 36, 2) := gdX1_init_76.1
theorem dX1_init_78 : decode cX1_init 78 = .ok (.newarray .int, 2) := gdX1_init_76.2.1
theorem dX1_init_80 : decode cX1_init 80 = .ok (.putfield 43, 3) := gdX1_init_76.2.2.1
theorem dX1_init_83 : decode cX1_init 83 = .ok (.aload_n 0, 1) := gdX1_init_76.2.2.2.1
theorem dX1_init_84 : decode cX1_init 84 = .ok (.bipush 36, 2) := gdX1_init_76.2.2.2.2.1
theorem dX1_init_86 : decode cX1_init 86 = .ok (.newarray .int, 2) := gdX1_init_76.2.2.2.2.2.1
theorem dX1_init_88 : decode cX1_init 88 = .ok (.putfield 46, 3) := gdX1_init_76.2.2.2.2.2.2.1
theorem dX1_init_91 : decode cX1_init 91 = .ok (.return_, 1) := gdX1_init_76.2.2.2.2.2.2.2
set_option maxRecDepth 20000 in
theorem gdX2_init_0 : decode cX2_init 0 = .ok (.aload_n 0, 1) ∧ decode cX2_init 1 = .ok (.invokespecial 3, 3) ∧ decode cX2_init 4 = .ok (.aload_n 0, 1) ∧ decode cX2_init 5 = .ok (.bipush 6, 2) ∧ decode cX2_init 7 = .ok (.newarray .int, 2) ∧ decode cX2_init 9 = .ok (.putfield 9, 3) ∧ decode cX2_init 12 = .ok (.aload_n 0, 1) ∧ decode cX2_init 13 = .ok (.bipush 21, 2) := by decide +kernel
theorem dX2_init_0 : decode cX2_init 0 = .ok (.aload_n 0, 1) := gdX2_init_0.1
theorem dX2_init_1 : decode cX2_init 1 = .ok (.invokespecial 3, 3) := gdX2_init_0.2.1
theorem dX2_init_4 : decode cX2_init 4 = .ok (.aload_n 0, 1) := gdX2_init_0.2.2.1
theorem dX2_init_5 : decode cX2_init 5 = .ok (.bipush 6, 2) := gdX2_init_0.2.2.2.1
theorem dX2_init_7 : decode cX2_init 7 = .ok (.newarray .int, 2) := gdX2_init_0.2.2.2.2.1
theorem dX2_init_9 : decode cX2_init 9 = .ok (.putfield 9, 3) := gdX2_init_0.2.2.2.2.2.1
theorem dX2_init_12 : decode cX2_init 12 = .ok (.aload_n 0, 1) := gdX2_init_0.2.2.2.2.2.2.1
theorem dX2_init_13 : decode cX2_init 13 = .ok (.bipush 21, 2) := gdX2_init_0.2.2.2.2.2.2.2
set_option maxRecDepth 20000 in
theorem gdX2_init_15 : decode cX2_init 15 = .ok (.newarray .int, 2) ∧ decode cX2_init 17 = .ok (.putfield 15, 3) ∧ decode cX2_init 20 = .ok (.aload_n 0, 1) ∧ decode cX2_init 21 = .ok (.bipush 21, 2) ∧ decode cX2_init 23 = .ok (.newarray .int, 2) ∧ decode cX2_init 25 = .ok (.putfield 18, 3) ∧ decode cX2_init 28 = .ok (.aload_n 0, 1) ∧ decode cX2_init 29 = .ok (.aload_n 1, 1) := by decide +kernel
theorem dX2_init_15 : decode cX2_init 15 = .ok (.newarray .int, 2) := gdX2_init_15.1
theorem dX2_init_17 : decode cX2_init 17 = .ok (.putfield 15, 3) := gdX2_init_15.2.1
theorem dX2_init_20 : decode cX2_init 20 = .ok (.aload_n 0, 1) := gdX2_init_15.2.2.1
theorem dX2_init_21 : decode cX2_init 21 = .ok (.bipush 21, 2) := gdX2_init_15.2.2.2.1
theorem dX2_init_23 : decode cX2_init 23 = .ok (.newarray .int, 2) := gdX2_init_15.2.2.2.2.1
theorem dX2_init_25 : decode cX2_init 25 = .ok (.putfield 18, 3) := gdX2_init_15.2.2.2.2.2.1
theorem dX2_init_28 : decode cX2_init 28 = .ok (.aload_n 0, 1) := gdX2_init_15.2.2.2.2.2.2.1
theorem dX2_init_29 : decode cX2_init 29 = .ok (.aload_n 1, 1) := gdX2_init_15.2.2.2.2.2.2.2
set_option maxRecDepth 20000 in
theorem gdX2_init_30 : decode cX2_init 30 = .ok (.putfield 21, 3) ∧ decode cX2_init 33 = .ok (.aload_n 0, 1) ∧ decode cX2_init 34 = .ok (.aload_n 2, 1) ∧ decode cX2_init 35 = .ok (.putfield 25, 3) ∧ decode cX2_init 38 = .ok (.return_, 1) := by decide +kernel
theorem dX2_init_30 : decode cX2_init 30 = .ok (.putfield 21, 3) := gdX2_init_30.1
theorem dX2_init_33 : decode cX2_init 33 = .ok (.aload_n 0, 1) := gdX2_init_30.2.1
theorem dX2_init_34 : decode cX2_init 34 = .ok (.aload_n 2, 1) := gdX2_init_30.2.2.1
theorem dX2_init_35 : decode cX2_init 35 = .ok (.putfield 25, 3) := gdX2_init_30.2.2.2.1
theorem dX2_init_38 : decode cX2_init 38 = .ok (.return_, 1) := gdX2_init_30.2.2.2.2
set_option maxRecDepth 20000 in
theorem gdX3_init_0 : decode cX3_init 0 = .ok (.aload_n 0, 1) ∧ decode cX3_init 1 = .ok (.invokespecial 3, 3) ∧ decode cX3_init 4 = .ok (.aload_n 0, 1) ∧ decode cX3_init 5 = .ok (.iconst 0, 1) ∧ decode cX3_init 6 = .ok (.putfield 9, 3) ∧ decode cX3_init 9 = .ok (.aload_n 0, 1) ∧ decode cX3_init 10 = .ok (.iconst 0, 1) ∧ decode cX3_init 11 = .ok (.putfield 15, 3) := by decide +kernel
theorem dX3_init_0 : decode cX3_init 0 = .ok (.aload_n 0, 1) := gdX3_init_0.1
theorem dX3_init_1 : decode cX3_init 1 = .ok (.invokespecial 3, 3) := gdX3_init_0.2.1
theorem dX3_init_4 : decode cX3_init 4 = .ok (.aload_n 0, 1) := gdX3_init_0.2.2.1
theorem dX3_init_5 : decode cX3_init 5 = .ok (.iconst 0, 1) := gdX3_init_0.2.2.2.1
theorem dX3_init_6 : decode cX3_init 6 = .ok (.putfield 9, 3) := gdX3_init_0.2.2.2.2.1
theorem dX3_init_9 : decode cX3_init 9 = .ok (.aload_n 0, 1) := gdX3_init_0.2.2.2.2.2.1
theorem dX3_init_10 : decode cX3_init 10 = .ok (.iconst 0, 1) := gdX3_init_0.2.2.2.2.2.2.1
theorem dX3_init_11 : decode cX3_init 11 = .ok (.putfield 15, 3) := gdX3_init_0.2.2.2.2.2.2.2
set_option maxRecDepth 20000 in
theorem gdX3_init_14 : decode cX3_init 14 = .ok (.aload_n 0, 1) ∧ decode cX3_init 15 = .ok (.aload_n 1, 1) ∧ decode cX3_init 16 = .ok (.putfield 18, 3) ∧ decode cX3_init 19 = .ok (.aload_n 0, 1) ∧ decode cX3_init 20 = .ok (.aload_n 2, 1) ∧ decode cX3_init 21 = .ok (.putfield 22, 3) ∧ decode cX3_init 24 = .ok (.return_, 1) := by decide +kernel
theorem dX3_init_14 : decode cX3_init 14 = .ok (.aload_n 0, 1) := gdX3_init_14.1
theorem dX3_init_15 : decode cX3_init 15 = .ok (.aload_n 1, 1) := gdX3_init_14.2.1
theorem dX3_init_16 : decode cX3_init 16 = .ok (.putfield 18, 3) := gdX3_init_14.2.2.1
theorem dX3_init_19 : decode cX3_init 19 = .ok (.aload_n 0, 1) := gdX3_init_14.2.2.2.1
theorem dX3_init_20 : decode cX3_init 20 = .ok (.aload_n 2, 1) := gdX3_init_14.2.2.2.2.1
theorem dX3_init_21 : decode cX3_init 21 = .ok (.putfield 22, 3) := gdX3_init_14.2.2.2.2.2.1
theorem dX3_init_24 : decode cX3_init 24 = .ok (.return_, 1) := gdX3_init_14.2.2.2.2.2.2
set_option maxRecDepth 20000 in
theorem gdX4_init_0 : decode cX4_init 0 = .ok (.aload_n 0, 1) ∧ decode cX4_init 1 = .ok (.invokespecial 3, 3) ∧ decode cX4_init 4 = .ok (.aload_n 0, 1) ∧ decode cX4_init 5 = .ok (.iconst (-1), 1) ∧ decode cX4_init 6 = .ok (.putfield 11, 3) ∧ decode cX4_init 9 = .ok (.aload_n 0, 1) ∧ decode cX4_init 10 = .ok (.iconst 0, 1) ∧ decode cX4_init 11 = .ok (.putfield 15, 3) := by decide +kernel
theorem dX4_init_0 : decode cX4_init 0 = .ok (.aload_n 0, 1) := gdX4_init_0.1
theorem dX4_init_1 : decode cX4_init 1 = .ok (.invokespecial 3, 3) := gdX4_init_0.2.1
theorem dX4_init_4 : decode cX4_init 4 = .ok (.aload_n 0, 1) := gdX4_init_0.2.2.1
theorem dX4_init_5 : decode cX4_init 5 = .ok (.iconst (-1), 1) := gdX4_init_0.2.2.2.1
theorem dX4_init_6 : decode cX4_init 6 = .ok (.putfield 11, 3) := gdX4_init_0.2.2.2.2.1
theorem dX4_init_9 : decode cX4_init 9 = .ok (.aload_n 0, 1) := gdX4_init_0.2.2.2.2.2.1
theorem dX4_init_10 : decode cX4_init 10 = .ok (.iconst 0, 1) := gdX4_init_0.2.2.2.2.2.2.1
theorem dX4_init_11 : decode cX4_init 11 = .ok (.putfield 15, 3) := gdX4_init_0.2.2.2.2.2.2.2
set_option maxRecDepth 20000 in
theorem gdX4_init_14 : decode cX4_init 14 = .ok (.aload_n 0, 1) ∧ decode cX4_init 15 = .ok (.bipush 40, 2) ∧ decode cX4_init 17 = .ok (.newarray .int, 2) ∧ decode cX4_init 19 = .ok (.putfield 18, 3) ∧ decode cX4_init 22 = .ok (.return_, 1) := by decide +kernel
theorem dX4_init_14 : decode cX4_init 14 = .ok (.aload_n 0, 1) := gdX4_init_14.1
theorem dX4_init_15 : decode cX4_init 15 = .ok (.bipush 40, 2) := gdX4_init_14.2.1
theorem dX4_init_17 : decode cX4_init 17 = .ok (.newarray .int, 2) := gdX4_init_14.2.2.1
theorem dX4_init_19 : decode cX4_init 19 = .ok (.putfield 18, 3) := gdX4_init_14.2.2.2.1
theorem dX4_init_22 : decode cX4_init 22 = .ok (.return_, 1) := gdX4_init_14.2.2.2.2
set_option maxRecDepth 20000 in
theorem gdX5_init_0 : decode cX5_init 0 = .ok (.aload_n 0, 1) ∧ decode cX5_init 1 = .ok (.invokespecial 1, 3) ∧ decode cX5_init 4 = .ok (.aload_n 0, 1) ∧ decode cX5_init 5 = .ok (.sipush 400, 3) ∧ decode cX5_init 8 = .ok (.newarray .int, 2) ∧ decode cX5_init 10 = .ok (.putfield 9, 3) ∧ decode cX5_init 13 = .ok (.aload_n 0, 1) ∧ decode cX5_init 14 = .ok (.iconst 0, 1) := by decide +kernel
theorem dX5_init_0 : decode cX5_init 0 = .ok (.aload_n 0, 1) := gdX5_init_0.1
theorem dX5_init_1 : decode cX5_init 1 = .ok (.invokespecial 1, 3) := gdX5_init_0.2.1
theorem dX5_init_4 : decode cX5_init 4 = .ok (.aload_n 0, 1) := gdX5_init_0.2.2.1
theorem dX5_init_5 : decode cX5_init 5 = .ok (.sipush 400, 3) := gdX5_init_0.2.2.2.1
theorem dX5_init_8 : decode cX5_init 8 = .ok (.newarray .int, 2) := gdX5_init_0.2.2.2.2.1
theorem dX5_init_10 : decode cX5_init 10 = .ok (.putfield 9, 3) := gdX5_init_0.2.2.2.2.2.1
theorem dX5_init_13 : decode cX5_init 13 = .ok (.aload_n 0, 1) := gdX5_init_0.2.2.2.2.2.2.1
theorem dX5_init_14 : decode cX5_init 14 = .ok (.iconst 0, 1) := gdX5_init_0.2.2.2.2.2.2.2
set_option maxRecDepth 20000 in
theorem gdX5_init_15 : decode cX5_init 15 = .ok (.putfield 13, 3) ∧ decode cX5_init 18 = .ok (.aload_n 0, 1) ∧ decode cX5_init 19 = .ok (.iconst 0, 1) ∧ decode cX5_init 20 = .ok (.putfield 17, 3) ∧ decode cX5_init 23 = .ok (.aload_n 0, 1) ∧ decode cX5_init 24 = .ok (.iconst 0, 1) ∧ decode cX5_init 25 = .ok (.putfield 20, 3) ∧ decode cX5_init 28 = .ok (.aload_n 0, 1) := by decide +kernel
theorem dX5_init_15 : decode cX5_init 15 = .ok (.putfield 13, 3) := gdX5_init_15.1
theorem dX5_init_18 : decode cX5_init 18 = .ok (.aload_n 0, 1) := gdX5_init_15.2.1
theorem dX5_init_19 : decode cX5_init 19 = .ok (.iconst 0, 1) := gdX5_init_15.2.2.1
theorem dX5_init_20 : decode cX5_init 20 = .ok (.putfield 17, 3) := gdX5_init_15.2.2.2.1
theorem dX5_init_23 : decode cX5_init 23 = .ok (.aload_n 0, 1) := gdX5_init_15.2.2.2.2.1
theorem dX5_init_24 : decode cX5_init 24 = .ok (.iconst 0, 1) := gdX5_init_15.2.2.2.2.2.1
theorem dX5_init_25 : decode cX5_init 25 = .ok (.putfield 20, 3) := gdX5_init_15.2.2.2.2.2.2.1
theorem dX5_init_28 : decode cX5_init 28 = .ok (.aload_n 0, 1) := gdX5_init_15.2.2.2.2.2.2.2
set_option maxRecDepth 20000 in
theorem gdX5_init_29 : decode cX5_init 29 = .ok (.iconst 0, 1) ∧ decode cX5_init 30 = .ok (.putfield 23, 3) ∧ decode cX5_init 33 = .ok (.aload_n 0, 1) ∧ decode cX5_init 34 = .ok (.iconst 0, 1) ∧ decode cX5_init 35 = .ok (.putfield 26, 3) ∧ decode cX5_init 38 = .ok (.return_, 1) := by decide +kernel
theorem dX5_init_29 : decode cX5_init 29 = .ok (.iconst 0, 1) := gdX5_init_29.1
theorem dX5_init_30 : decode cX5_init 30 = .ok (.putfield 23, 3) := gdX5_init_29.2.1
theorem dX5_init_33 : decode cX5_init 33 = .ok (.aload_n 0, 1) := gdX5_init_29.2.2.1
theorem dX5_init_34 : decode cX5_init 34 = .ok (.iconst 0, 1) := gdX5_init_29.2.2.2.1
theorem dX5_init_35 : decode cX5_init 35 = .ok (.putfield 26, 3) := gdX5_init_29.2.2.2.2.1
theorem dX5_init_38 : decode cX5_init 38 = .ok (.return_, 1) := gdX5_init_29.2.2.2.2.2
set_option maxRecDepth 20000 in
theorem gdX6_init_0 : decode cX6_init 0 = .ok (.aload_n 0, 1) ∧ decode cX6_init 1 = .ok (.invokespecial 3, 3) ∧ decode cX6_init 4 = .ok (.aload_n 0, 1) ∧ decode cX6_init 5 = .ok (.sipush 640, 3) ∧ decode cX6_init 8 = .ok (.newarray .int, 2) ∧ decode cX6_init 10 = .ok (.putfield 9, 3) ∧ decode cX6_init 13 = .ok (.aload_n 0, 1) ∧ decode cX6_init 14 = .ok (.sipush 640, 3) := by decide +kernel
theorem dX6_init_0 : decode cX6_init 0 = .ok (.aload_n 0, 1) := gdX6_init_0.1
theorem dX6_init_1 : decode cX6_init 1 = .ok (.invokespecial 3, 3) := gdX6_init_0.2.1
theorem dX6_init_4 : decode cX6_init 4 = .ok (.aload_n 0, 1) := gdX6_init_0.2.2.1
theorem dX6_init_5 : decode cX6_init 5 = .ok (.sipush 640, 3) := gdX6_init_0.2.2.2.1
theorem dX6_init_8 : decode cX6_init 8 = .ok (.newarray .int, 2) := gdX6_init_0.2.2.2.2.1
theorem dX6_init_10 : decode cX6_init 10 = .ok (.putfield 9, 3) := gdX6_init_0.2.2.2.2.2.1
theorem dX6_init_13 : decode cX6_init 13 = .ok (.aload_n 0, 1) := gdX6_init_0.2.2.2.2.2.2.1
theorem dX6_init_14 : decode cX6_init 14 = .ok (.sipush 640, 3) := gdX6_init_0.2.2.2.2.2.2.2
set_option maxRecDepth 20000 in
theorem gdX6_init_17 : decode cX6_init 17 = .ok (.newarray .int, 2) ∧ decode cX6_init 19 = .ok (.putfield 15, 3) ∧ decode cX6_init 22 = .ok (.aload_n 0, 1) ∧ decode cX6_init 23 = .ok (.sipush 640, 3) ∧ decode cX6_init 26 = .ok (.newarray .int, 2) ∧ decode cX6_init 28 = .ok (.putfield 18, 3) ∧ decode cX6_init 31 = .ok (.aload_n 0, 1) ∧ decode cX6_init 32 = .ok (.sipush 640, 3) := by decide +kernel
theorem dX6_init_17 : decode cX6_init 17 = .ok (.newarray .int, 2) := gdX6_init_17.1
theorem dX6_init_19 : decode cX6_init 19 = .ok (.putfield 15, 3) := gdX6_init_17.2.1
theorem dX6_init_22 : decode cX6_init 22 = .ok (.aload_n 0, 1) := gdX6_init_17.2.2.1
theorem dX6_init_23 : decode cX6_init 23 = .ok (.sipush 640, 3) := gdX6_init_17.2.2.2.1
theorem dX6_init_26 : decode cX6_init 26 = .ok (.newarray .int, 2) := gdX6_init_17.2.2.2.2.1
theorem dX6_init_28 : decode cX6_init 28 = .ok (.putfield 18, 3) := gdX6_init_17.2.2.2.2.2.1
theorem dX6_init_31 : decode cX6_init 31 = .ok (.aload_n 0, 1) := gdX6_init_17.2.2.2.2.2.2.1
theorem dX6_init_32 : decode cX6_init 32 = .ok (.sipush 640, 3) := gdX6_init_17.2.2.2.2.2.2.2
set_option maxRecDepth 20000 in
theorem gdX6_init_35 : decode cX6_init 35 = .ok (.newarray .int, 2) ∧ decode cX6_init 37 = .ok (.putfield 21, 3) ∧ decode cX6_init 40 = .ok (.return_, 1) := by decide +kernel
theorem dX6_init_35 : decode cX6_init 35 = .ok (.newarray .int, 2) := gdX6_init_35.1
theorem dX6_init_37 : decode cX6_init 37 = .ok (.putfield 21, 3) := gdX6_init_35.2.1
theorem dX6_init_40 : decode cX6_init 40 = .ok (.return_, 1) := gdX6_init_35.2.2
set_option maxRecDepth 20000 in
theorem gdX7_init_0 : decode cX7_init 0 = .ok (.aload_n 0, 1) ∧ decode cX7_init 1 = .ok (.invokespecial 5, 3) ∧ decode cX7_init 4 = .ok (.aload_n 0, 1) ∧ decode cX7_init 5 = .ok (.bipush 7, 2) ∧ decode cX7_init 7 = .ok (.newarray .int, 2) ∧ decode cX7_init 9 = .ok (.putfield 11, 3) ∧ decode cX7_init 12 = .ok (.aload_n 0, 1) ∧ decode cX7_init 13 = .ok (.sipush 480, 3) := by decide +kernel
theorem dX7_init_0 : decode cX7_init 0 = .ok (.aload_n 0, 1) := gdX7_init_0.1
theorem dX7_init_1 : decode cX7_init 1 = .ok (.invokespecial 5, 3) := gdX7_init_0.2.1
theorem dX7_init_4 : decode cX7_init 4 = .ok (.aload_n 0, 1) := gdX7_init_0.2.2.1
theorem dX7_init_5 : decode cX7_init 5 = .ok (.bipush 7, 2) := gdX7_init_0.2.2.2.1
theorem dX7_init_7 : decode cX7_init 7 = .ok (.newarray .int, 2) := gdX7_init_0.2.2.2.2.1
theorem dX7_init_9 : decode cX7_init 9 = .ok (.putfield 11, 3) := gdX7_init_0.2.2.2.2.2.1
theorem dX7_init_12 : decode cX7_init 12 = .ok (.aload_n 0, 1) := gdX7_init_0.2.2.2.2.2.2.1
theorem dX7_init_13 : decode cX7_init 13 = .ok (.sipush 480, 3) := gdX7_init_0.2.2.2.2.2.2.2
set_option maxRecDepth 20000 in
theorem gdX7_init_16 : decode cX7_init 16 = .ok (.newarray .int, 2) ∧ decode cX7_init 18 = .ok (.putfield 15, 3) ∧ decode cX7_init 21 = .ok (.aload_n 0, 1) ∧ decode cX7_init 22 = .ok (.sipush 480, 3) ∧ decode cX7_init 25 = .ok (.newarray .int, 2) ∧ decode cX7_init 27 = .ok (.putfield 18, 3) ∧ decode cX7_init 30 = .ok (.aload_n 0, 1) ∧ decode cX7_init 31 = .ok (.sipush 480, 3) := by decide +kernel
theorem dX7_init_16 : decode cX7_init 16 = .ok (.newarray .int, 2) := gdX7_init_16.1
theorem dX7_init_18 : decode cX7_init 18 = .ok (.putfield 15, 3) := gdX7_init_16.2.1
theorem dX7_init_21 : decode cX7_init 21 = .ok (.aload_n 0, 1) := gdX7_init_16.2.2.1
theorem dX7_init_22 : decode cX7_init 22 = .ok (.sipush 480, 3) := gdX7_init_16.2.2.2.1
theorem dX7_init_25 : decode cX7_init 25 = .ok (.newarray .int, 2) := gdX7_init_16.2.2.2.2.1
theorem dX7_init_27 : decode cX7_init 27 = .ok (.putfield 18, 3) := gdX7_init_16.2.2.2.2.2.1
theorem dX7_init_30 : decode cX7_init 30 = .ok (.aload_n 0, 1) := gdX7_init_16.2.2.2.2.2.2.1
theorem dX7_init_31 : decode cX7_init 31 = .ok (.sipush 480, 3) := gdX7_init_16.2.2.2.2.2.2.2
set_option maxRecDepth 20000 in
theorem gdX7_init_34 : decode cX7_init 34 = .ok (.newarray .int, 2) ∧ decode cX7_init 36 = .ok (.putfield 21, 3) ∧ decode cX7_init 39 = .ok (.aload_n 0, 1) ∧ decode cX7_init 40 = .ok (.iconst 0, 1) ∧ decode cX7_init 41 = .ok (.putfield 24, 3) ∧ decode cX7_init 44 = .ok (.aload_n 0, 1) ∧ decode cX7_init 45 = .ok (.iconst 0, 1) ∧ decode cX7_init 46 = .ok (.putfield 28, 3) := by decide +kernel
theorem dX7_init_34 : decode cX7_init 34 = .ok (.newarray .int, 2) := gdX7_init_34.1
theorem dX7_init_36 : decode cX7_init 36 = .ok (.putfield 21, 3) := gdX7_init_34.2.1
theorem dX7_init_39 : decode cX7_init 39 = .ok (.aload_n 0, 1) := gdX7_init_34.2.2.1
theorem dX7_init_40 : decode cX7_init 40 = .ok (.iconst 0, 1) := gdX7_init_34.2.2.2.1
theorem dX7_init_41 : decode cX7_init 41 = .ok (.putfield 24, 3) := gdX7_init_34.2.2.2.2.1
theorem dX7_init_44 : decode cX7_init 44 = .ok (.aload_n 0, 1) := gdX7_init_34.2.2.2.2.2.1
theorem dX7_init_45 : decode cX7_init 45 = .ok (.iconst 0, 1) := gdX7_init_34.2.2.2.2.2.2.1
theorem dX7_init_46 : decode cX7_init 46 = .ok (.putfield 28, 3) := gdX7_init_34.2.2.2.2.2.2.2
set_option maxRecDepth 20000 in
theorem gdX7_init_49 : decode cX7_init 49 = .ok (.aload_n 0, 1) ∧ decode cX7_init 50 = .ok (.iconst 0, 1) ∧ decode cX7_init 51 = .ok (.putfield 31, 3) ∧ decode cX7_init 54 = .ok (.aload_n 0, 1) ∧ decode cX7_init 55 = .ok (.iconst 0, 1) ∧ decode cX7_init 56 = .ok (.putfield 34, 3) ∧ decode cX7_init 59 = .ok (.aload_n 0, 1) ∧ decode cX7_init 60 = .ok (.aload_n 1, 1) := by decide +kernel
theorem dX7_init_49 : decode cX7_init 49 = .ok (.aload_n 0, 1) := gdX7_init_49.1
theorem dX7_init_50 : decode cX7_init 50 = .ok (.iconst 0, 1) := gdX7_init_49.2.1
theorem dX7_init_51 : decode cX7_init 51 = .ok (.putfield 31, 3) := gdX7_init_49.2.2.1
theorem dX7_init_54 : decode cX7_init 54 = .ok (.aload_n 0, 1) := gdX7_init_49.2.2.2.1
theorem dX7_init_55 : decode cX7_init 55 = .ok (.iconst 0, 1) := gdX7_init_49.2.2.2.2.1
theorem dX7_init_56 : decode cX7_init 56 = .ok (.putfield 34, 3) := gdX7_init_49.2.2.2.2.2.1
theorem dX7_init_59 : decode cX7_init 59 = .ok (.aload_n 0, 1) := gdX7_init_49.2.2.2.2.2.2.1
theorem dX7_init_60 : decode cX7_init 60 = .ok (.aload_n 1, 1) := gdX7_init_49.2.2.2.2.2.2.2
set_option maxRecDepth 20000 in
theorem gdX7_init_61 : decode cX7_init 61 = .ok (.putfield 37, 3) ∧ decode cX7_init 64 = .ok (.aload_n 0, 1) ∧ decode cX7_init 65 = .ok (.aload_n 2, 1) ∧ decode cX7_init 66 = .ok (.putfield 41, 3) ∧ decode cX7_init 69 = .ok (.aload_n 0, 1) ∧ decode cX7_init 70 = .ok (.aload_n 1, 1) ∧ decode cX7_init 71 = .ok (.getfield 45, 3) ∧ decode cX7_init 74 = .ok (.putfield 50, 3) := by decide +kernel
theorem dX7_init_61 : decode cX7_init 61 = .ok (.putfield 37, 3) := gdX7_init_61.1
theorem dX7_init_64 : decode cX7_init 64 = .ok (.aload_n 0, 1) := gdX7_init_61.2.1
theorem dX7_init_65 : decode cX7_init 65 = .ok (.aload_n 2, 1) := gdX7_init_61.2.2.1
theorem dX7_init_66 : decode cX7_init 66 = .ok (.putfield 41, 3) := gdX7_init_61.2.2.2.1
theorem dX7_init_69 : decode cX7_init 69 = .ok (.aload_n 0, 1) := gdX7_init_61.2.2.2.2.1
theorem dX7_init_70 : decode cX7_init 70 = .ok (.aload_n 1, 1) := gdX7_init_61.2.2.2.2.2.1
theorem dX7_init_71 : decode cX7_init 71 = .ok (.getfield 45, 3) := gdX7_init_61.2.2.2.2.2.2.1
theorem dX7_init_74 : decode cX7_init 74 = .ok (.putfield 50, 3) := gdX7_init_61.2.2.2.2.2.2.2
theorem dX7_init_77 : decode cX7_init 77 = .ok (.return_, 1) := by decide +kernel
theorem jX0_init_X0 : ∀ w ∈ u_ws RX0 TX0 3, w ∈ wsX0_init := fun w h => List.mem_cons_of_mem _ (List.mem_append_right _ h)
theorem jX1_init_X1 : ∀ w ∈ u_ws RX1 TX1 12, w ∈ wsX1_init := fun w h => List.mem_cons_of_mem _ (List.mem_append_right _ h)
theorem jX2_init_X2 : ∀ w ∈ u_ws RX2 TX2 5, w ∈ wsX2_init := fun w h => List.mem_cons_of_mem _ (List.mem_append_right _ h)
theorem jX3_init_X3 : ∀ w ∈ u_ws RX3 TX3 4, w ∈ wsX3_init := fun w h => List.mem_cons_of_mem _ (List.mem_append_right _ h)
theorem jX4_init_X4 : ∀ w ∈ u_ws RX4 TX4 3, w ∈ wsX4_init := fun w h => List.mem_cons_of_mem _ (List.mem_append_right _ h)
theorem jX5_init_X5 : ∀ w ∈ u_ws RX5 TX5 6, w ∈ wsX5_init := fun w h => List.mem_cons_of_mem _ (List.mem_append_right _ h)
theorem jX6_init_X6 : ∀ w ∈ u_ws RX6 TX6 4, w ∈ wsX6_init := fun w h => List.mem_cons_of_mem _ (List.mem_append_right _ h)
theorem jX7_init_X1 : ∀ w ∈ u_ws RX1 TX1 12, w ∈ wsX7_init := fun w h => List.mem_cons_of_mem _ (List.mem_append_right _ h)
theorem jX7_init_X7 : ∀ w ∈ u_ws RX7 TX7 11, w ∈ wsX7_init := fun w h => List.mem_cons_of_mem _ (List.mem_append_left _ (List.mem_append_right _ h))
theorem oi_X0_init : Cond.code objectInit ⟨#[0xb1]⟩ 1 none ∈ wsX0_init := List.mem_of_getElem? (i := 3) rfl
theorem oi_X1_init : Cond.code objectInit ⟨#[0xb1]⟩ 1 none ∈ wsX1_init := List.mem_of_getElem? (i := 3) rfl
theorem oi_X2_init : Cond.code objectInit ⟨#[0xb1]⟩ 1 none ∈ wsX2_init := List.mem_of_getElem? (i := 3) rfl
theorem oi_X3_init : Cond.code objectInit ⟨#[0xb1]⟩ 1 none ∈ wsX3_init := List.mem_of_getElem? (i := 3) rfl
theorem oi_X4_init : Cond.code objectInit ⟨#[0xb1]⟩ 1 none ∈ wsX4_init := List.mem_of_getElem? (i := 3) rfl
theorem oi_X5_init : Cond.code objectInit ⟨#[0xb1]⟩ 1 none ∈ wsX5_init := List.mem_of_getElem? (i := 3) rfl
theorem oi_X6_init : Cond.code objectInit ⟨#[0xb1]⟩ 1 none ∈ wsX6_init := List.mem_of_getElem? (i := 3) rfl
theorem oi_X7_init : Cond.code objectInit ⟨#[0xb1]⟩ 1 none ∈ wsX7_init := List.mem_of_getElem? (i := 3) rfl
set_option maxHeartbeats 4000000 in
set_option maxRecDepth 100000 in
theorem c_X4_init (l : Launch) (D : va_G) (cI cZ cC cS : ClassId) (sq : Nat → Nat) (sz : Nat) (h0 : Nat) : mV l yX4_init wsX4_init 1 12 1 40 D (tyW cI cZ cC cS) sq [(h0, .inr (4, [.int 0, .int 0, .null]))] sz [.ref h0] (fun w => ∃ (q1 : Nat), w = [(h0, .inr (4, [.int (-1), .int 0, .ref q1])), (q1, .inl (cI, 40, .inl (fun _ => 0)))]) := by
  refine b_metV (cc := cX4_init) (maxL := 1) (ret := none) (by decide) rfl (Nat.le_of_ble_eq_true rfl) ?_
  intro p e s m below meth c ls A H X hsz hP hK hT hD hA hS hl
  have S : CallFix p m c cX4_init 1 s ([.ref h0] : List Value).toArray wsX4_init RX4 := X.1
  have hl : lv_has ls 1 [(0, .ref h0)] := hl
  have iX4 := jX4_init_X4
  refine lv_aload_n S.1 S.2.1 dX4_init_0 rfl (lv_at hl 0 rfl) ?_
  refine W.objInit S.1 S.2.1 S.2.2.2.1 (S.2.2.2.2 (.methodLink RX4 3 objectInit) (by decide +kernel)) (S.2.2.2.2 (.instanceMethod objectInit) (by decide +kernel)) (S.2.2.2.2 _ oi_X4_init) rfl (S.2.2.1.trans hl.1.symm).symm rfl dX4_init_1 (Nat.le_of_ble_eq_true rfl) (Nat.le_of_ble_eq_true rfl) ?_
  refine W.eq (g2 := F0 m 4 ls []) rfl ?_
  refine lv_aload_n S.1 S.2.1 dX4_init_4 rfl (lv_at hl 0 rfl) ?_
  refine lv_iconst (v := (-1)) S.1 S.2.1 dX4_init_5 (by decide) ?_
  refine b_put (v := .int (-1)) S iX4 tyX4 tyX4_ok nmX4 hK hP hD hS 0 rfl rfl 0 (by decide) (by decide +kernel) rfl rfl rfl (Nat.le_of_ble_eq_true rfl) dX4_init_6 (fun H locs hP hD hS => ?_)
  have hP : va_P D vwCl [(h0, .inr (4, [.int (-1), .int 0, .null]))] H := hP
  have hD : va_D A [(h0, .inr (4, [.int (-1), .int 0, .null]))] := hD
  refine lv_aload_n S.1 S.2.1 dX4_init_9 rfl (lv_at hl 0 rfl) ?_
  refine lv_iconst (v := 0) S.1 S.2.1 dX4_init_10 (by decide) ?_
  refine b_put (v := .int 0) S iX4 tyX4 tyX4_ok nmX4 hK hP hD hS 0 rfl rfl 1 (by decide) (by decide +kernel) rfl rfl rfl (Nat.le_of_ble_eq_true rfl) dX4_init_11 (fun H locs hP hD hS => ?_)
  have hP : va_P D vwCl [(h0, .inr (4, [.int (-1), .int 0, .null]))] H := hP
  have hD : va_D A [(h0, .inr (4, [.int (-1), .int 0, .null]))] := hD
  refine lv_aload_n S.1 S.2.1 dX4_init_14 rfl (lv_at hl 0 rfl) ?_
  refine lv_bipush (v := 40) S.1 S.2.1 dX4_init_15 (by decide) ?_
  refine b_newi (N' := 40) S (by decide +kernel) hK 0 rfl hP hD hS hA (by decide) (by decide) (by decide) (Nat.le_of_ble_eq_true rfl) (Nat.le_of_ble_eq_true rfl) dX4_init_17 (fun q_1 H hP hD hS => ?_)
  have hP : va_P D vwCl [(h0, .inr (4, [.int (-1), .int 0, .null])), (q_1, .inl (cI, 40, .inl (fun _ => 0)))] H := hP
  have hD : va_D A [(h0, .inr (4, [.int (-1), .int 0, .null])), (q_1, .inl (cI, 40, .inl (fun _ => 0)))] := hD
  refine W.widen (k := 1) (n := 40) (by omega) (by omega) ?_
  refine b_putF (v := .ref q_1) S iX4 tyX4 tyX4_ok nmX4 hK hP hD hS 0 rfl rfl 2 (by decide) (by decide +kernel) rfl X.2.2.2 rfl rfl rfl (Nat.le_of_ble_eq_true rfl) dX4_init_19 (fun H locs hP hD hS => ?_)
  have hP : va_P D vwCl [(h0, .inr (4, [.int (-1), .int 0, .ref q_1])), (q_1, .inl (cI, 40, .inl (fun _ => 0)))] H := hP
  have hD : va_D A [(h0, .inr (4, [.int (-1), .int 0, .ref q_1])), (q_1, .inl (cI, 40, .inl (fun _ => 0)))] := hD
  exact b_vret S.1 S.2.1 X.2.1 X.2.2.1 hP hD hS ⟨q_1, rfl⟩ dX4_init_22
set_option maxHeartbeats 4000000 in
set_option maxRecDepth 100000 in
theorem c_X5_init (l : Launch) (D : va_G) (cI cZ cC cS : ClassId) (sq : Nat → Nat) (sz : Nat) (h0 : Nat) : mV l yX5_init wsX5_init 1 12 1 400 D (tyW cI cZ cC cS) sq [(h0, .inr (5, [.null, .int 0, .int 0, .int 0, .int 0, .int 0]))] sz [.ref h0] (fun w => ∃ (q1 : Nat), w = [(h0, .inr (5, [.ref q1, .int 0, .int 0, .int 0, .int 0, .int 0])), (q1, .inl (cI, 400, .inl (fun _ => 0)))]) := by
  refine b_metV (cc := cX5_init) (maxL := 1) (ret := none) (by decide) rfl (Nat.le_of_ble_eq_true rfl) ?_
  intro p e s m below meth c ls A H X hsz hP hK hT hD hA hS hl
  have S : CallFix p m c cX5_init 1 s ([.ref h0] : List Value).toArray wsX5_init RX5 := X.1
  have hl : lv_has ls 1 [(0, .ref h0)] := hl
  have iX5 := jX5_init_X5
  refine lv_aload_n S.1 S.2.1 dX5_init_0 rfl (lv_at hl 0 rfl) ?_
  refine W.objInit S.1 S.2.1 S.2.2.2.1 (S.2.2.2.2 (.methodLink RX5 1 objectInit) (by decide +kernel)) (S.2.2.2.2 (.instanceMethod objectInit) (by decide +kernel)) (S.2.2.2.2 _ oi_X5_init) rfl (S.2.2.1.trans hl.1.symm).symm rfl dX5_init_1 (Nat.le_of_ble_eq_true rfl) (Nat.le_of_ble_eq_true rfl) ?_
  refine W.eq (g2 := F0 m 4 ls []) rfl ?_
  refine lv_aload_n S.1 S.2.1 dX5_init_4 rfl (lv_at hl 0 rfl) ?_
  refine lv_sipush (v := 400) S.1 S.2.1 dX5_init_5 (by decide) ?_
  refine b_newi (N' := 400) S (by decide +kernel) hK 0 rfl hP hD hS hA (by decide) (by decide) (by decide) (Nat.le_of_ble_eq_true rfl) (Nat.le_of_ble_eq_true rfl) dX5_init_8 (fun q_1 H hP hD hS => ?_)
  have hP : va_P D vwCl [(h0, .inr (5, [.null, .int 0, .int 0, .int 0, .int 0, .int 0])), (q_1, .inl (cI, 400, .inl (fun _ => 0)))] H := hP
  have hD : va_D A [(h0, .inr (5, [.null, .int 0, .int 0, .int 0, .int 0, .int 0])), (q_1, .inl (cI, 400, .inl (fun _ => 0)))] := hD
  refine W.widen (k := 1) (n := 400) (by omega) (by omega) ?_
  refine b_putF (v := .ref q_1) S iX5 tyX5 tyX5_ok nmX5 hK hP hD hS 0 rfl rfl 0 (by decide) (by decide +kernel) rfl X.2.2.2 rfl rfl rfl (Nat.le_of_ble_eq_true rfl) dX5_init_10 (fun H locs hP hD hS => ?_)
  have hP : va_P D vwCl [(h0, .inr (5, [.ref q_1, .int 0, .int 0, .int 0, .int 0, .int 0])), (q_1, .inl (cI, 400, .inl (fun _ => 0)))] H := hP
  have hD : va_D A [(h0, .inr (5, [.ref q_1, .int 0, .int 0, .int 0, .int 0, .int 0])), (q_1, .inl (cI, 400, .inl (fun _ => 0)))] := hD
  refine lv_aload_n S.1 S.2.1 dX5_init_13 rfl (lv_at hl 0 rfl) ?_
  refine lv_iconst (v := 0) S.1 S.2.1 dX5_init_14 (by decide) ?_
  refine b_put (v := .int 0) S iX5 tyX5 tyX5_ok nmX5 hK hP hD hS 0 rfl rfl 1 (by decide) (by decide +kernel) rfl rfl rfl (Nat.le_of_ble_eq_true rfl) dX5_init_15 (fun H locs hP hD hS => ?_)
  have hP : va_P D vwCl [(h0, .inr (5, [.ref q_1, .int 0, .int 0, .int 0, .int 0, .int 0])), (q_1, .inl (cI, 400, .inl (fun _ => 0)))] H := hP
  have hD : va_D A [(h0, .inr (5, [.ref q_1, .int 0, .int 0, .int 0, .int 0, .int 0])), (q_1, .inl (cI, 400, .inl (fun _ => 0)))] := hD
  refine lv_aload_n S.1 S.2.1 dX5_init_18 rfl (lv_at hl 0 rfl) ?_
  refine lv_iconst (v := 0) S.1 S.2.1 dX5_init_19 (by decide) ?_
  refine b_put (v := .int 0) S iX5 tyX5 tyX5_ok nmX5 hK hP hD hS 0 rfl rfl 2 (by decide) (by decide +kernel) rfl rfl rfl (Nat.le_of_ble_eq_true rfl) dX5_init_20 (fun H locs hP hD hS => ?_)
  have hP : va_P D vwCl [(h0, .inr (5, [.ref q_1, .int 0, .int 0, .int 0, .int 0, .int 0])), (q_1, .inl (cI, 400, .inl (fun _ => 0)))] H := hP
  have hD : va_D A [(h0, .inr (5, [.ref q_1, .int 0, .int 0, .int 0, .int 0, .int 0])), (q_1, .inl (cI, 400, .inl (fun _ => 0)))] := hD
  refine lv_aload_n S.1 S.2.1 dX5_init_23 rfl (lv_at hl 0 rfl) ?_
  refine lv_iconst (v := 0) S.1 S.2.1 dX5_init_24 (by decide) ?_
  refine b_put (v := .int 0) S iX5 tyX5 tyX5_ok nmX5 hK hP hD hS 0 rfl rfl 3 (by decide) (by decide +kernel) rfl rfl rfl (Nat.le_of_ble_eq_true rfl) dX5_init_25 (fun H locs hP hD hS => ?_)
  have hP : va_P D vwCl [(h0, .inr (5, [.ref q_1, .int 0, .int 0, .int 0, .int 0, .int 0])), (q_1, .inl (cI, 400, .inl (fun _ => 0)))] H := hP
  have hD : va_D A [(h0, .inr (5, [.ref q_1, .int 0, .int 0, .int 0, .int 0, .int 0])), (q_1, .inl (cI, 400, .inl (fun _ => 0)))] := hD
  refine lv_aload_n S.1 S.2.1 dX5_init_28 rfl (lv_at hl 0 rfl) ?_
  refine lv_iconst (v := 0) S.1 S.2.1 dX5_init_29 (by decide) ?_
  refine b_put (v := .int 0) S iX5 tyX5 tyX5_ok nmX5 hK hP hD hS 0 rfl rfl 4 (by decide) (by decide +kernel) rfl rfl rfl (Nat.le_of_ble_eq_true rfl) dX5_init_30 (fun H locs hP hD hS => ?_)
  have hP : va_P D vwCl [(h0, .inr (5, [.ref q_1, .int 0, .int 0, .int 0, .int 0, .int 0])), (q_1, .inl (cI, 400, .inl (fun _ => 0)))] H := hP
  have hD : va_D A [(h0, .inr (5, [.ref q_1, .int 0, .int 0, .int 0, .int 0, .int 0])), (q_1, .inl (cI, 400, .inl (fun _ => 0)))] := hD
  refine lv_aload_n S.1 S.2.1 dX5_init_33 rfl (lv_at hl 0 rfl) ?_
  refine lv_iconst (v := 0) S.1 S.2.1 dX5_init_34 (by decide) ?_
  refine b_put (v := .int 0) S iX5 tyX5 tyX5_ok nmX5 hK hP hD hS 0 rfl rfl 5 (by decide) (by decide +kernel) rfl rfl rfl (Nat.le_of_ble_eq_true rfl) dX5_init_35 (fun H locs hP hD hS => ?_)
  have hP : va_P D vwCl [(h0, .inr (5, [.ref q_1, .int 0, .int 0, .int 0, .int 0, .int 0])), (q_1, .inl (cI, 400, .inl (fun _ => 0)))] H := hP
  have hD : va_D A [(h0, .inr (5, [.ref q_1, .int 0, .int 0, .int 0, .int 0, .int 0])), (q_1, .inl (cI, 400, .inl (fun _ => 0)))] := hD
  exact b_vret S.1 S.2.1 X.2.1 X.2.2.1 hP hD hS ⟨q_1, rfl⟩ dX5_init_38
set_option maxHeartbeats 4000000 in
set_option maxRecDepth 100000 in
theorem c_X1_init (l : Launch) (D : va_G) (cI cZ cC cS : ClassId) (sq : Nat → Nat) (sz : Nat) (h0 : Nat) : mV l yX1_init wsX1_init 1 12 9 188 D (tyW cI cZ cC cS) sq [(h0, .inr (1, [.int 0, .int 0, .int 0, .null, .null, .null, .null, .null, .null, .null, .null, .null]))] sz [.ref h0] (fun w => ∃ (q1 : Nat), ∃ (q2 : Nat), ∃ (q3 : Nat), ∃ (q4 : Nat), ∃ (q5 : Nat), ∃ (q6 : Nat), ∃ (q7 : Nat), ∃ (q8 : Nat), ∃ (q9 : Nat), w = [(h0, .inr (1, [.int 0, .int 0, .int 0, .ref q1, .ref q2, .ref q3, .ref q4, .ref q5, .ref q6, .ref q7, .ref q8, .ref q9])), (q1, .inl (cI, 80, .inl (fun _ => 0))), (q2, .inl (cI, 6, .inl (fun _ => 0))), (q3, .inl (cI, 6, .inl (fun _ => 0))), (q4, .inl (cI, 6, .inl (fun _ => 0))), (q5, .inl (cI, 6, .inl (fun _ => 0))), (q6, .inl (cI, 6, .inl (fun _ => 0))), (q7, .inl (cI, 6, .inl (fun _ => 0))), (q8, .inl (cI, 36, .inl (fun _ => 0))), (q9, .inl (cI, 36, .inl (fun _ => 0)))]) := by
  refine b_metV (cc := cX1_init) (maxL := 1) (ret := none) (by decide) rfl (Nat.le_of_ble_eq_true rfl) ?_
  intro p e s m below meth c ls A H X hsz hP hK hT hD hA hS hl
  have S : CallFix p m c cX1_init 1 s ([.ref h0] : List Value).toArray wsX1_init RX1 := X.1
  have hl : lv_has ls 1 [(0, .ref h0)] := hl
  have iX1 := jX1_init_X1
  refine lv_aload_n S.1 S.2.1 dX1_init_0 rfl (lv_at hl 0 rfl) ?_
  refine W.objInit S.1 S.2.1 S.2.2.2.1 (S.2.2.2.2 (.methodLink RX1 3 objectInit) (by decide +kernel)) (S.2.2.2.2 (.instanceMethod objectInit) (by decide +kernel)) (S.2.2.2.2 _ oi_X1_init) rfl (S.2.2.1.trans hl.1.symm).symm rfl dX1_init_1 (Nat.le_of_ble_eq_true rfl) (Nat.le_of_ble_eq_true rfl) ?_
  refine W.eq (g2 := F0 m 4 ls []) rfl ?_
  refine lv_aload_n S.1 S.2.1 dX1_init_4 rfl (lv_at hl 0 rfl) ?_
  refine lv_iconst (v := 0) S.1 S.2.1 dX1_init_5 (by decide) ?_
  refine b_put (v := .int 0) S iX1 tyX1 tyX1_ok nmX1 hK hP hD hS 0 rfl rfl 0 (by decide) (by decide +kernel) rfl rfl rfl (Nat.le_of_ble_eq_true rfl) dX1_init_6 (fun H locs hP hD hS => ?_)
  have hP : va_P D vwCl [(h0, .inr (1, [.int 0, .int 0, .int 0, .null, .null, .null, .null, .null, .null, .null, .null, .null]))] H := hP
  have hD : va_D A [(h0, .inr (1, [.int 0, .int 0, .int 0, .null, .null, .null, .null, .null, .null, .null, .null, .null]))] := hD
  refine lv_aload_n S.1 S.2.1 dX1_init_9 rfl (lv_at hl 0 rfl) ?_
  refine lv_iconst (v := 0) S.1 S.2.1 dX1_init_10 (by decide) ?_
  refine b_put (v := .int 0) S iX1 tyX1 tyX1_ok nmX1 hK hP hD hS 0 rfl rfl 1 (by decide) (by decide +kernel) rfl rfl rfl (Nat.le_of_ble_eq_true rfl) dX1_init_11 (fun H locs hP hD hS => ?_)
  have hP : va_P D vwCl [(h0, .inr (1, [.int 0, .int 0, .int 0, .null, .null, .null, .null, .null, .null, .null, .null, .null]))] H := hP
  have hD : va_D A [(h0, .inr (1, [.int 0, .int 0, .int 0, .null, .null, .null, .null, .null, .null, .null, .null, .null]))] := hD
  refine lv_aload_n S.1 S.2.1 dX1_init_14 rfl (lv_at hl 0 rfl) ?_
  refine lv_iconst (v := 0) S.1 S.2.1 dX1_init_15 (by decide) ?_
  refine b_put (v := .int 0) S iX1 tyX1 tyX1_ok nmX1 hK hP hD hS 0 rfl rfl 2 (by decide) (by decide +kernel) rfl rfl rfl (Nat.le_of_ble_eq_true rfl) dX1_init_16 (fun H locs hP hD hS => ?_)
  have hP : va_P D vwCl [(h0, .inr (1, [.int 0, .int 0, .int 0, .null, .null, .null, .null, .null, .null, .null, .null, .null]))] H := hP
  have hD : va_D A [(h0, .inr (1, [.int 0, .int 0, .int 0, .null, .null, .null, .null, .null, .null, .null, .null, .null]))] := hD
  refine lv_aload_n S.1 S.2.1 dX1_init_19 rfl (lv_at hl 0 rfl) ?_
  refine lv_bipush (v := 80) S.1 S.2.1 dX1_init_20 (by decide) ?_
  refine b_newi (N' := 80) S (by decide +kernel) hK 0 rfl hP hD hS hA (by decide) (by decide) (by decide) (Nat.le_of_ble_eq_true rfl) (Nat.le_of_ble_eq_true rfl) dX1_init_22 (fun q_1 H hP hD hS => ?_)
  have hP : va_P D vwCl [(h0, .inr (1, [.int 0, .int 0, .int 0, .null, .null, .null, .null, .null, .null, .null, .null, .null])), (q_1, .inl (cI, 80, .inl (fun _ => 0)))] H := hP
  have hD : va_D A [(h0, .inr (1, [.int 0, .int 0, .int 0, .null, .null, .null, .null, .null, .null, .null, .null, .null])), (q_1, .inl (cI, 80, .inl (fun _ => 0)))] := hD
  refine W.widen (k := 1) (n := 80) (by omega) (by omega) ?_
  refine b_putF (v := .ref q_1) S iX1 tyX1 tyX1_ok nmX1 hK hP hD hS 0 rfl rfl 3 (by decide) (by decide +kernel) rfl X.2.2.2 rfl rfl rfl (Nat.le_of_ble_eq_true rfl) dX1_init_24 (fun H locs hP hD hS => ?_)
  have hP : va_P D vwCl [(h0, .inr (1, [.int 0, .int 0, .int 0, .ref q_1, .null, .null, .null, .null, .null, .null, .null, .null])), (q_1, .inl (cI, 80, .inl (fun _ => 0)))] H := hP
  have hD : va_D A [(h0, .inr (1, [.int 0, .int 0, .int 0, .ref q_1, .null, .null, .null, .null, .null, .null, .null, .null])), (q_1, .inl (cI, 80, .inl (fun _ => 0)))] := hD
  refine lv_aload_n S.1 S.2.1 dX1_init_27 rfl (lv_at hl 0 rfl) ?_
  refine lv_bipush (v := 6) S.1 S.2.1 dX1_init_28 (by decide) ?_
  refine b_newi (N' := 6) S (by decide +kernel) hK 0 rfl hP hD hS hA (by decide) (by decide) (by decide) (Nat.le_of_ble_eq_true rfl) (Nat.le_of_ble_eq_true rfl) dX1_init_30 (fun q_2 H hP hD hS => ?_)
  have hP : va_P D vwCl [(h0, .inr (1, [.int 0, .int 0, .int 0, .ref q_1, .null, .null, .null, .null, .null, .null, .null, .null])), (q_1, .inl (cI, 80, .inl (fun _ => 0))), (q_2, .inl (cI, 6, .inl (fun _ => 0)))] H := hP
  have hD : va_D A [(h0, .inr (1, [.int 0, .int 0, .int 0, .ref q_1, .null, .null, .null, .null, .null, .null, .null, .null])), (q_1, .inl (cI, 80, .inl (fun _ => 0))), (q_2, .inl (cI, 6, .inl (fun _ => 0)))] := hD
  refine W.widen (k := 2) (n := 86) (by omega) (by omega) ?_
  refine b_putF (v := .ref q_2) S iX1 tyX1 tyX1_ok nmX1 hK hP hD hS 0 rfl rfl 4 (by decide) (by decide +kernel) rfl X.2.2.2 rfl rfl rfl (Nat.le_of_ble_eq_true rfl) dX1_init_32 (fun H locs hP hD hS => ?_)
  have hP : va_P D vwCl [(h0, .inr (1, [.int 0, .int 0, .int 0, .ref q_1, .ref q_2, .null, .null, .null, .null, .null, .null, .null])), (q_1, .inl (cI, 80, .inl (fun _ => 0))), (q_2, .inl (cI, 6, .inl (fun _ => 0)))] H := hP
  have hD : va_D A [(h0, .inr (1, [.int 0, .int 0, .int 0, .ref q_1, .ref q_2, .null, .null, .null, .null, .null, .null, .null])), (q_1, .inl (cI, 80, .inl (fun _ => 0))), (q_2, .inl (cI, 6, .inl (fun _ => 0)))] := hD
  refine lv_aload_n S.1 S.2.1 dX1_init_35 rfl (lv_at hl 0 rfl) ?_
  refine lv_bipush (v := 6) S.1 S.2.1 dX1_init_36 (by decide) ?_
  refine b_newi (N' := 6) S (by decide +kernel) hK 0 rfl hP hD hS hA (by decide) (by decide) (by decide) (Nat.le_of_ble_eq_true rfl) (Nat.le_of_ble_eq_true rfl) dX1_init_38 (fun q_3 H hP hD hS => ?_)
  have hP : va_P D vwCl [(h0, .inr (1, [.int 0, .int 0, .int 0, .ref q_1, .ref q_2, .null, .null, .null, .null, .null, .null, .null])), (q_1, .inl (cI, 80, .inl (fun _ => 0))), (q_2, .inl (cI, 6, .inl (fun _ => 0))), (q_3, .inl (cI, 6, .inl (fun _ => 0)))] H := hP
  have hD : va_D A [(h0, .inr (1, [.int 0, .int 0, .int 0, .ref q_1, .ref q_2, .null, .null, .null, .null, .null, .null, .null])), (q_1, .inl (cI, 80, .inl (fun _ => 0))), (q_2, .inl (cI, 6, .inl (fun _ => 0))), (q_3, .inl (cI, 6, .inl (fun _ => 0)))] := hD
  refine W.widen (k := 3) (n := 92) (by omega) (by omega) ?_
  refine b_putF (v := .ref q_3) S iX1 tyX1 tyX1_ok nmX1 hK hP hD hS 0 rfl rfl 5 (by decide) (by decide +kernel) rfl X.2.2.2 rfl rfl rfl (Nat.le_of_ble_eq_true rfl) dX1_init_40 (fun H locs hP hD hS => ?_)
  have hP : va_P D vwCl [(h0, .inr (1, [.int 0, .int 0, .int 0, .ref q_1, .ref q_2, .ref q_3, .null, .null, .null, .null, .null, .null])), (q_1, .inl (cI, 80, .inl (fun _ => 0))), (q_2, .inl (cI, 6, .inl (fun _ => 0))), (q_3, .inl (cI, 6, .inl (fun _ => 0)))] H := hP
  have hD : va_D A [(h0, .inr (1, [.int 0, .int 0, .int 0, .ref q_1, .ref q_2, .ref q_3, .null, .null, .null, .null, .null, .null])), (q_1, .inl (cI, 80, .inl (fun _ => 0))), (q_2, .inl (cI, 6, .inl (fun _ => 0))), (q_3, .inl (cI, 6, .inl (fun _ => 0)))] := hD
  refine lv_aload_n S.1 S.2.1 dX1_init_43 rfl (lv_at hl 0 rfl) ?_
  refine lv_bipush (v := 6) S.1 S.2.1 dX1_init_44 (by decide) ?_
  refine b_newi (N' := 6) S (by decide +kernel) hK 0 rfl hP hD hS hA (by decide) (by decide) (by decide) (Nat.le_of_ble_eq_true rfl) (Nat.le_of_ble_eq_true rfl) dX1_init_46 (fun q_4 H hP hD hS => ?_)
  have hP : va_P D vwCl [(h0, .inr (1, [.int 0, .int 0, .int 0, .ref q_1, .ref q_2, .ref q_3, .null, .null, .null, .null, .null, .null])), (q_1, .inl (cI, 80, .inl (fun _ => 0))), (q_2, .inl (cI, 6, .inl (fun _ => 0))), (q_3, .inl (cI, 6, .inl (fun _ => 0))), (q_4, .inl (cI, 6, .inl (fun _ => 0)))] H := hP
  have hD : va_D A [(h0, .inr (1, [.int 0, .int 0, .int 0, .ref q_1, .ref q_2, .ref q_3, .null, .null, .null, .null, .null, .null])), (q_1, .inl (cI, 80, .inl (fun _ => 0))), (q_2, .inl (cI, 6, .inl (fun _ => 0))), (q_3, .inl (cI, 6, .inl (fun _ => 0))), (q_4, .inl (cI, 6, .inl (fun _ => 0)))] := hD
  refine W.widen (k := 4) (n := 98) (by omega) (by omega) ?_
  refine b_putF (v := .ref q_4) S iX1 tyX1 tyX1_ok nmX1 hK hP hD hS 0 rfl rfl 6 (by decide) (by decide +kernel) rfl X.2.2.2 rfl rfl rfl (Nat.le_of_ble_eq_true rfl) dX1_init_48 (fun H locs hP hD hS => ?_)
  have hP : va_P D vwCl [(h0, .inr (1, [.int 0, .int 0, .int 0, .ref q_1, .ref q_2, .ref q_3, .ref q_4, .null, .null, .null, .null, .null])), (q_1, .inl (cI, 80, .inl (fun _ => 0))), (q_2, .inl (cI, 6, .inl (fun _ => 0))), (q_3, .inl (cI, 6, .inl (fun _ => 0))), (q_4, .inl (cI, 6, .inl (fun _ => 0)))] H := hP
  have hD : va_D A [(h0, .inr (1, [.int 0, .int 0, .int 0, .ref q_1, .ref q_2, .ref q_3, .ref q_4, .null, .null, .null, .null, .null])), (q_1, .inl (cI, 80, .inl (fun _ => 0))), (q_2, .inl (cI, 6, .inl (fun _ => 0))), (q_3, .inl (cI, 6, .inl (fun _ => 0))), (q_4, .inl (cI, 6, .inl (fun _ => 0)))] := hD
  refine lv_aload_n S.1 S.2.1 dX1_init_51 rfl (lv_at hl 0 rfl) ?_
  refine lv_bipush (v := 6) S.1 S.2.1 dX1_init_52 (by decide) ?_
  refine b_newi (N' := 6) S (by decide +kernel) hK 0 rfl hP hD hS hA (by decide) (by decide) (by decide) (Nat.le_of_ble_eq_true rfl) (Nat.le_of_ble_eq_true rfl) dX1_init_54 (fun q_5 H hP hD hS => ?_)
  have hP : va_P D vwCl [(h0, .inr (1, [.int 0, .int 0, .int 0, .ref q_1, .ref q_2, .ref q_3, .ref q_4, .null, .null, .null, .null, .null])), (q_1, .inl (cI, 80, .inl (fun _ => 0))), (q_2, .inl (cI, 6, .inl (fun _ => 0))), (q_3, .inl (cI, 6, .inl (fun _ => 0))), (q_4, .inl (cI, 6, .inl (fun _ => 0))), (q_5, .inl (cI, 6, .inl (fun _ => 0)))] H := hP
  have hD : va_D A [(h0, .inr (1, [.int 0, .int 0, .int 0, .ref q_1, .ref q_2, .ref q_3, .ref q_4, .null, .null, .null, .null, .null])), (q_1, .inl (cI, 80, .inl (fun _ => 0))), (q_2, .inl (cI, 6, .inl (fun _ => 0))), (q_3, .inl (cI, 6, .inl (fun _ => 0))), (q_4, .inl (cI, 6, .inl (fun _ => 0))), (q_5, .inl (cI, 6, .inl (fun _ => 0)))] := hD
  refine W.widen (k := 5) (n := 104) (by omega) (by omega) ?_
  refine b_putF (v := .ref q_5) S iX1 tyX1 tyX1_ok nmX1 hK hP hD hS 0 rfl rfl 7 (by decide) (by decide +kernel) rfl X.2.2.2 rfl rfl rfl (Nat.le_of_ble_eq_true rfl) dX1_init_56 (fun H locs hP hD hS => ?_)
  have hP : va_P D vwCl [(h0, .inr (1, [.int 0, .int 0, .int 0, .ref q_1, .ref q_2, .ref q_3, .ref q_4, .ref q_5, .null, .null, .null, .null])), (q_1, .inl (cI, 80, .inl (fun _ => 0))), (q_2, .inl (cI, 6, .inl (fun _ => 0))), (q_3, .inl (cI, 6, .inl (fun _ => 0))), (q_4, .inl (cI, 6, .inl (fun _ => 0))), (q_5, .inl (cI, 6, .inl (fun _ => 0)))] H := hP
  have hD : va_D A [(h0, .inr (1, [.int 0, .int 0, .int 0, .ref q_1, .ref q_2, .ref q_3, .ref q_4, .ref q_5, .null, .null, .null, .null])), (q_1, .inl (cI, 80, .inl (fun _ => 0))), (q_2, .inl (cI, 6, .inl (fun _ => 0))), (q_3, .inl (cI, 6, .inl (fun _ => 0))), (q_4, .inl (cI, 6, .inl (fun _ => 0))), (q_5, .inl (cI, 6, .inl (fun _ => 0)))] := hD
  refine lv_aload_n S.1 S.2.1 dX1_init_59 rfl (lv_at hl 0 rfl) ?_
  refine lv_bipush (v := 6) S.1 S.2.1 dX1_init_60 (by decide) ?_
  refine b_newi (N' := 6) S (by decide +kernel) hK 0 rfl hP hD hS hA (by decide) (by decide) (by decide) (Nat.le_of_ble_eq_true rfl) (Nat.le_of_ble_eq_true rfl) dX1_init_62 (fun q_6 H hP hD hS => ?_)
  have hP : va_P D vwCl [(h0, .inr (1, [.int 0, .int 0, .int 0, .ref q_1, .ref q_2, .ref q_3, .ref q_4, .ref q_5, .null, .null, .null, .null])), (q_1, .inl (cI, 80, .inl (fun _ => 0))), (q_2, .inl (cI, 6, .inl (fun _ => 0))), (q_3, .inl (cI, 6, .inl (fun _ => 0))), (q_4, .inl (cI, 6, .inl (fun _ => 0))), (q_5, .inl (cI, 6, .inl (fun _ => 0))), (q_6, .inl (cI, 6, .inl (fun _ => 0)))] H := hP
  have hD : va_D A [(h0, .inr (1, [.int 0, .int 0, .int 0, .ref q_1, .ref q_2, .ref q_3, .ref q_4, .ref q_5, .null, .null, .null, .null])), (q_1, .inl (cI, 80, .inl (fun _ => 0))), (q_2, .inl (cI, 6, .inl (fun _ => 0))), (q_3, .inl (cI, 6, .inl (fun _ => 0))), (q_4, .inl (cI, 6, .inl (fun _ => 0))), (q_5, .inl (cI, 6, .inl (fun _ => 0))), (q_6, .inl (cI, 6, .inl (fun _ => 0)))] := hD
  refine W.widen (k := 6) (n := 110) (by omega) (by omega) ?_
  refine b_putF (v := .ref q_6) S iX1 tyX1 tyX1_ok nmX1 hK hP hD hS 0 rfl rfl 8 (by decide) (by decide +kernel) rfl X.2.2.2 rfl rfl rfl (Nat.le_of_ble_eq_true rfl) dX1_init_64 (fun H locs hP hD hS => ?_)
  have hP : va_P D vwCl [(h0, .inr (1, [.int 0, .int 0, .int 0, .ref q_1, .ref q_2, .ref q_3, .ref q_4, .ref q_5, .ref q_6, .null, .null, .null])), (q_1, .inl (cI, 80, .inl (fun _ => 0))), (q_2, .inl (cI, 6, .inl (fun _ => 0))), (q_3, .inl (cI, 6, .inl (fun _ => 0))), (q_4, .inl (cI, 6, .inl (fun _ => 0))), (q_5, .inl (cI, 6, .inl (fun _ => 0))), (q_6, .inl (cI, 6, .inl (fun _ => 0)))] H := hP
  have hD : va_D A [(h0, .inr (1, [.int 0, .int 0, .int 0, .ref q_1, .ref q_2, .ref q_3, .ref q_4, .ref q_5, .ref q_6, .null, .null, .null])), (q_1, .inl (cI, 80, .inl (fun _ => 0))), (q_2, .inl (cI, 6, .inl (fun _ => 0))), (q_3, .inl (cI, 6, .inl (fun _ => 0))), (q_4, .inl (cI, 6, .inl (fun _ => 0))), (q_5, .inl (cI, 6, .inl (fun _ => 0))), (q_6, .inl (cI, 6, .inl (fun _ => 0)))] := hD
  refine lv_aload_n S.1 S.2.1 dX1_init_67 rfl (lv_at hl 0 rfl) ?_
  refine lv_bipush (v := 6) S.1 S.2.1 dX1_init_68 (by decide) ?_
  refine b_newi (N' := 6) S (by decide +kernel) hK 0 rfl hP hD hS hA (by decide) (by decide) (by decide) (Nat.le_of_ble_eq_true rfl) (Nat.le_of_ble_eq_true rfl) dX1_init_70 (fun q_7 H hP hD hS => ?_)
  have hP : va_P D vwCl [(h0, .inr (1, [.int 0, .int 0, .int 0, .ref q_1, .ref q_2, .ref q_3, .ref q_4, .ref q_5, .ref q_6, .null, .null, .null])), (q_1, .inl (cI, 80, .inl (fun _ => 0))), (q_2, .inl (cI, 6, .inl (fun _ => 0))), (q_3, .inl (cI, 6, .inl (fun _ => 0))), (q_4, .inl (cI, 6, .inl (fun _ => 0))), (q_5, .inl (cI, 6, .inl (fun _ => 0))), (q_6, .inl (cI, 6, .inl (fun _ => 0))), (q_7, .inl (cI, 6, .inl (fun _ => 0)))] H := hP
  have hD : va_D A [(h0, .inr (1, [.int 0, .int 0, .int 0, .ref q_1, .ref q_2, .ref q_3, .ref q_4, .ref q_5, .ref q_6, .null, .null, .null])), (q_1, .inl (cI, 80, .inl (fun _ => 0))), (q_2, .inl (cI, 6, .inl (fun _ => 0))), (q_3, .inl (cI, 6, .inl (fun _ => 0))), (q_4, .inl (cI, 6, .inl (fun _ => 0))), (q_5, .inl (cI, 6, .inl (fun _ => 0))), (q_6, .inl (cI, 6, .inl (fun _ => 0))), (q_7, .inl (cI, 6, .inl (fun _ => 0)))] := hD
  refine W.widen (k := 7) (n := 116) (by omega) (by omega) ?_
  refine b_putF (v := .ref q_7) S iX1 tyX1 tyX1_ok nmX1 hK hP hD hS 0 rfl rfl 9 (by decide) (by decide +kernel) rfl X.2.2.2 rfl rfl rfl (Nat.le_of_ble_eq_true rfl) dX1_init_72 (fun H locs hP hD hS => ?_)
  have hP : va_P D vwCl [(h0, .inr (1, [.int 0, .int 0, .int 0, .ref q_1, .ref q_2, .ref q_3, .ref q_4, .ref q_5, .ref q_6, .ref q_7, .null, .null])), (q_1, .inl (cI, 80, .inl (fun _ => 0))), (q_2, .inl (cI, 6, .inl (fun _ => 0))), (q_3, .inl (cI, 6, .inl (fun _ => 0))), (q_4, .inl (cI, 6, .inl (fun _ => 0))), (q_5, .inl (cI, 6, .inl (fun _ => 0))), (q_6, .inl (cI, 6, .inl (fun _ => 0))), (q_7, .inl (cI, 6, .inl (fun _ => 0)))] H := hP
  have hD : va_D A [(h0, .inr (1, [.int 0, .int 0, .int 0, .ref q_1, .ref q_2, .ref q_3, .ref q_4, .ref q_5, .ref q_6, .ref q_7, .null, .null])), (q_1, .inl (cI, 80, .inl (fun _ => 0))), (q_2, .inl (cI, 6, .inl (fun _ => 0))), (q_3, .inl (cI, 6, .inl (fun _ => 0))), (q_4, .inl (cI, 6, .inl (fun _ => 0))), (q_5, .inl (cI, 6, .inl (fun _ => 0))), (q_6, .inl (cI, 6, .inl (fun _ => 0))), (q_7, .inl (cI, 6, .inl (fun _ => 0)))] := hD
  refine lv_aload_n S.1 S.2.1 dX1_init_75 rfl (lv_at hl 0 rfl) ?_
  refine lv_bipush (v := 36) S.1 S.2.1 dX1_init_76 (by decide) ?_
  refine b_newi (N' := 36) S (by decide +kernel) hK 0 rfl hP hD hS hA (by decide) (by decide) (by decide) (Nat.le_of_ble_eq_true rfl) (Nat.le_of_ble_eq_true rfl) dX1_init_78 (fun q_8 H hP hD hS => ?_)
  have hP : va_P D vwCl [(h0, .inr (1, [.int 0, .int 0, .int 0, .ref q_1, .ref q_2, .ref q_3, .ref q_4, .ref q_5, .ref q_6, .ref q_7, .null, .null])), (q_1, .inl (cI, 80, .inl (fun _ => 0))), (q_2, .inl (cI, 6, .inl (fun _ => 0))), (q_3, .inl (cI, 6, .inl (fun _ => 0))), (q_4, .inl (cI, 6, .inl (fun _ => 0))), (q_5, .inl (cI, 6, .inl (fun _ => 0))), (q_6, .inl (cI, 6, .inl (fun _ => 0))), (q_7, .inl (cI, 6, .inl (fun _ => 0))), (q_8, .inl (cI, 36, .inl (fun _ => 0)))] H := hP
  have hD : va_D A [(h0, .inr (1, [.int 0, .int 0, .int 0, .ref q_1, .ref q_2, .ref q_3, .ref q_4, .ref q_5, .ref q_6, .ref q_7, .null, .null])), (q_1, .inl (cI, 80, .inl (fun _ => 0))), (q_2, .inl (cI, 6, .inl (fun _ => 0))), (q_3, .inl (cI, 6, .inl (fun _ => 0))), (q_4, .inl (cI, 6, .inl (fun _ => 0))), (q_5, .inl (cI, 6, .inl (fun _ => 0))), (q_6, .inl (cI, 6, .inl (fun _ => 0))), (q_7, .inl (cI, 6, .inl (fun _ => 0))), (q_8, .inl (cI, 36, .inl (fun _ => 0)))] := hD
  refine W.widen (k := 8) (n := 152) (by omega) (by omega) ?_
  refine b_putF (v := .ref q_8) S iX1 tyX1 tyX1_ok nmX1 hK hP hD hS 0 rfl rfl 10 (by decide) (by decide +kernel) rfl X.2.2.2 rfl rfl rfl (Nat.le_of_ble_eq_true rfl) dX1_init_80 (fun H locs hP hD hS => ?_)
  have hP : va_P D vwCl [(h0, .inr (1, [.int 0, .int 0, .int 0, .ref q_1, .ref q_2, .ref q_3, .ref q_4, .ref q_5, .ref q_6, .ref q_7, .ref q_8, .null])), (q_1, .inl (cI, 80, .inl (fun _ => 0))), (q_2, .inl (cI, 6, .inl (fun _ => 0))), (q_3, .inl (cI, 6, .inl (fun _ => 0))), (q_4, .inl (cI, 6, .inl (fun _ => 0))), (q_5, .inl (cI, 6, .inl (fun _ => 0))), (q_6, .inl (cI, 6, .inl (fun _ => 0))), (q_7, .inl (cI, 6, .inl (fun _ => 0))), (q_8, .inl (cI, 36, .inl (fun _ => 0)))] H := hP
  have hD : va_D A [(h0, .inr (1, [.int 0, .int 0, .int 0, .ref q_1, .ref q_2, .ref q_3, .ref q_4, .ref q_5, .ref q_6, .ref q_7, .ref q_8, .null])), (q_1, .inl (cI, 80, .inl (fun _ => 0))), (q_2, .inl (cI, 6, .inl (fun _ => 0))), (q_3, .inl (cI, 6, .inl (fun _ => 0))), (q_4, .inl (cI, 6, .inl (fun _ => 0))), (q_5, .inl (cI, 6, .inl (fun _ => 0))), (q_6, .inl (cI, 6, .inl (fun _ => 0))), (q_7, .inl (cI, 6, .inl (fun _ => 0))), (q_8, .inl (cI, 36, .inl (fun _ => 0)))] := hD
  refine lv_aload_n S.1 S.2.1 dX1_init_83 rfl (lv_at hl 0 rfl) ?_
  refine lv_bipush (v := 36) S.1 S.2.1 dX1_init_84 (by decide) ?_
  refine b_newi (N' := 36) S (by decide +kernel) hK 0 rfl hP hD hS hA (by decide) (by decide) (by decide) (Nat.le_of_ble_eq_true rfl) (Nat.le_of_ble_eq_true rfl) dX1_init_86 (fun q_9 H hP hD hS => ?_)
  have hP : va_P D vwCl [(h0, .inr (1, [.int 0, .int 0, .int 0, .ref q_1, .ref q_2, .ref q_3, .ref q_4, .ref q_5, .ref q_6, .ref q_7, .ref q_8, .null])), (q_1, .inl (cI, 80, .inl (fun _ => 0))), (q_2, .inl (cI, 6, .inl (fun _ => 0))), (q_3, .inl (cI, 6, .inl (fun _ => 0))), (q_4, .inl (cI, 6, .inl (fun _ => 0))), (q_5, .inl (cI, 6, .inl (fun _ => 0))), (q_6, .inl (cI, 6, .inl (fun _ => 0))), (q_7, .inl (cI, 6, .inl (fun _ => 0))), (q_8, .inl (cI, 36, .inl (fun _ => 0))), (q_9, .inl (cI, 36, .inl (fun _ => 0)))] H := hP
  have hD : va_D A [(h0, .inr (1, [.int 0, .int 0, .int 0, .ref q_1, .ref q_2, .ref q_3, .ref q_4, .ref q_5, .ref q_6, .ref q_7, .ref q_8, .null])), (q_1, .inl (cI, 80, .inl (fun _ => 0))), (q_2, .inl (cI, 6, .inl (fun _ => 0))), (q_3, .inl (cI, 6, .inl (fun _ => 0))), (q_4, .inl (cI, 6, .inl (fun _ => 0))), (q_5, .inl (cI, 6, .inl (fun _ => 0))), (q_6, .inl (cI, 6, .inl (fun _ => 0))), (q_7, .inl (cI, 6, .inl (fun _ => 0))), (q_8, .inl (cI, 36, .inl (fun _ => 0))), (q_9, .inl (cI, 36, .inl (fun _ => 0)))] := hD
  refine W.widen (k := 9) (n := 188) (by omega) (by omega) ?_
  refine b_putF (v := .ref q_9) S iX1 tyX1 tyX1_ok nmX1 hK hP hD hS 0 rfl rfl 11 (by decide) (by decide +kernel) rfl X.2.2.2 rfl rfl rfl (Nat.le_of_ble_eq_true rfl) dX1_init_88 (fun H locs hP hD hS => ?_)
  have hP : va_P D vwCl [(h0, .inr (1, [.int 0, .int 0, .int 0, .ref q_1, .ref q_2, .ref q_3, .ref q_4, .ref q_5, .ref q_6, .ref q_7, .ref q_8, .ref q_9])), (q_1, .inl (cI, 80, .inl (fun _ => 0))), (q_2, .inl (cI, 6, .inl (fun _ => 0))), (q_3, .inl (cI, 6, .inl (fun _ => 0))), (q_4, .inl (cI, 6, .inl (fun _ => 0))), (q_5, .inl (cI, 6, .inl (fun _ => 0))), (q_6, .inl (cI, 6, .inl (fun _ => 0))), (q_7, .inl (cI, 6, .inl (fun _ => 0))), (q_8, .inl (cI, 36, .inl (fun _ => 0))), (q_9, .inl (cI, 36, .inl (fun _ => 0)))] H := hP
  have hD : va_D A [(h0, .inr (1, [.int 0, .int 0, .int 0, .ref q_1, .ref q_2, .ref q_3, .ref q_4, .ref q_5, .ref q_6, .ref q_7, .ref q_8, .ref q_9])), (q_1, .inl (cI, 80, .inl (fun _ => 0))), (q_2, .inl (cI, 6, .inl (fun _ => 0))), (q_3, .inl (cI, 6, .inl (fun _ => 0))), (q_4, .inl (cI, 6, .inl (fun _ => 0))), (q_5, .inl (cI, 6, .inl (fun _ => 0))), (q_6, .inl (cI, 6, .inl (fun _ => 0))), (q_7, .inl (cI, 6, .inl (fun _ => 0))), (q_8, .inl (cI, 36, .inl (fun _ => 0))), (q_9, .inl (cI, 36, .inl (fun _ => 0)))] := hD
  exact b_vret S.1 S.2.1 X.2.1 X.2.2.1 hP hD hS ⟨q_1, q_2, q_3, q_4, q_5, q_6, q_7, q_8, q_9, rfl⟩ dX1_init_91
set_option maxHeartbeats 4000000 in
set_option maxRecDepth 100000 in
theorem c_X3_init (l : Launch) (D : va_G) (cI cZ cC cS : ClassId) (sq : Nat → Nat) (sz : Nat) (h0 : Nat) (tp : Nat) (ct : Nat) : mV l yX3_init wsX3_init 1 12 0 0 D (tyW cI cZ cC cS) sq [(h0, .inr (3, [.null, .null, .int 0, .int 0]))] sz [.ref h0, .ref tp, .ref ct] (fun w => w = [(h0, .inr (3, [.ref tp, .ref ct, .int 0, .int 0]))]) := by
  refine b_metV (cc := cX3_init) (maxL := 3) (ret := none) (by decide) rfl (Nat.le_of_ble_eq_true rfl) ?_
  intro p e s m below meth c ls A H X hsz hP hK hT hD hA hS hl
  have S : CallFix p m c cX3_init 3 s ([.ref h0, .ref tp, .ref ct] : List Value).toArray wsX3_init RX3 := X.1
  have hl : lv_has ls 3 [(0, .ref h0), (1, .ref tp), (2, .ref ct)] := hl
  have iX3 := jX3_init_X3
  refine lv_aload_n S.1 S.2.1 dX3_init_0 rfl (lv_at hl 0 rfl) ?_
  refine W.objInit S.1 S.2.1 S.2.2.2.1 (S.2.2.2.2 (.methodLink RX3 3 objectInit) (by decide +kernel)) (S.2.2.2.2 (.instanceMethod objectInit) (by decide +kernel)) (S.2.2.2.2 _ oi_X3_init) rfl (S.2.2.1.trans hl.1.symm).symm rfl dX3_init_1 (Nat.le_of_ble_eq_true rfl) (Nat.le_of_ble_eq_true rfl) ?_
  refine W.eq (g2 := F0 m 4 ls []) rfl ?_
  refine lv_aload_n S.1 S.2.1 dX3_init_4 rfl (lv_at hl 0 rfl) ?_
  refine lv_iconst (v := 0) S.1 S.2.1 dX3_init_5 (by decide) ?_
  refine b_put (v := .int 0) S iX3 tyX3 tyX3_ok nmX3 hK hP hD hS 0 rfl rfl 2 (by decide) (by decide +kernel) rfl rfl rfl (Nat.le_of_ble_eq_true rfl) dX3_init_6 (fun H locs hP hD hS => ?_)
  have hP : va_P D vwCl [(h0, .inr (3, [.null, .null, .int 0, .int 0]))] H := hP
  have hD : va_D A [(h0, .inr (3, [.null, .null, .int 0, .int 0]))] := hD
  refine lv_aload_n S.1 S.2.1 dX3_init_9 rfl (lv_at hl 0 rfl) ?_
  refine lv_iconst (v := 0) S.1 S.2.1 dX3_init_10 (by decide) ?_
  refine b_put (v := .int 0) S iX3 tyX3 tyX3_ok nmX3 hK hP hD hS 0 rfl rfl 3 (by decide) (by decide +kernel) rfl rfl rfl (Nat.le_of_ble_eq_true rfl) dX3_init_11 (fun H locs hP hD hS => ?_)
  have hP : va_P D vwCl [(h0, .inr (3, [.null, .null, .int 0, .int 0]))] H := hP
  have hD : va_D A [(h0, .inr (3, [.null, .null, .int 0, .int 0]))] := hD
  refine lv_aload_n S.1 S.2.1 dX3_init_14 rfl (lv_at hl 0 rfl) ?_
  refine lv_aload_n S.1 S.2.1 dX3_init_15 rfl (lv_at hl 1 rfl) ?_
  refine b_putF (v := .ref tp) S iX3 tyX3 tyX3_ok nmX3 hK hP hD hS 0 rfl rfl 0 (by decide) (by decide +kernel) rfl X.2.2.2 rfl rfl rfl (Nat.le_of_ble_eq_true rfl) dX3_init_16 (fun H locs hP hD hS => ?_)
  have hP : va_P D vwCl [(h0, .inr (3, [.ref tp, .null, .int 0, .int 0]))] H := hP
  have hD : va_D A [(h0, .inr (3, [.ref tp, .null, .int 0, .int 0]))] := hD
  refine lv_aload_n S.1 S.2.1 dX3_init_19 rfl (lv_at hl 0 rfl) ?_
  refine lv_aload_n S.1 S.2.1 dX3_init_20 rfl (lv_at hl 2 rfl) ?_
  refine b_putF (v := .ref ct) S iX3 tyX3 tyX3_ok nmX3 hK hP hD hS 0 rfl rfl 1 (by decide) (by decide +kernel) rfl X.2.2.2 rfl rfl rfl (Nat.le_of_ble_eq_true rfl) dX3_init_21 (fun H locs hP hD hS => ?_)
  have hP : va_P D vwCl [(h0, .inr (3, [.ref tp, .ref ct, .int 0, .int 0]))] H := hP
  have hD : va_D A [(h0, .inr (3, [.ref tp, .ref ct, .int 0, .int 0]))] := hD
  exact b_vret S.1 S.2.1 X.2.1 X.2.2.1 hP hD hS rfl dX3_init_24
set_option maxHeartbeats 4000000 in
set_option maxRecDepth 100000 in
theorem c_X6_init (l : Launch) (D : va_G) (cI cZ cC cS : ClassId) (sq : Nat → Nat) (sz : Nat) (h0 : Nat) : mV l yX6_init wsX6_init 1 12 4 2560 D (tyW cI cZ cC cS) sq [(h0, .inr (6, [.null, .null, .null, .null]))] sz [.ref h0] (fun w => ∃ (q1 : Nat), ∃ (q2 : Nat), ∃ (q3 : Nat), ∃ (q4 : Nat), w = [(h0, .inr (6, [.ref q1, .ref q2, .ref q3, .ref q4])), (q1, .inl (cI, 640, .inl (fun _ => 0))), (q2, .inl (cI, 640, .inl (fun _ => 0))), (q3, .inl (cI, 640, .inl (fun _ => 0))), (q4, .inl (cI, 640, .inl (fun _ => 0)))]) := by
  refine b_metV (cc := cX6_init) (maxL := 1) (ret := none) (by decide) rfl (Nat.le_of_ble_eq_true rfl) ?_
  intro p e s m below meth c ls A H X hsz hP hK hT hD hA hS hl
  have S : CallFix p m c cX6_init 1 s ([.ref h0] : List Value).toArray wsX6_init RX6 := X.1
  have hl : lv_has ls 1 [(0, .ref h0)] := hl
  have iX6 := jX6_init_X6
  refine lv_aload_n S.1 S.2.1 dX6_init_0 rfl (lv_at hl 0 rfl) ?_
  refine W.objInit S.1 S.2.1 S.2.2.2.1 (S.2.2.2.2 (.methodLink RX6 3 objectInit) (by decide +kernel)) (S.2.2.2.2 (.instanceMethod objectInit) (by decide +kernel)) (S.2.2.2.2 _ oi_X6_init) rfl (S.2.2.1.trans hl.1.symm).symm rfl dX6_init_1 (Nat.le_of_ble_eq_true rfl) (Nat.le_of_ble_eq_true rfl) ?_
  refine W.eq (g2 := F0 m 4 ls []) rfl ?_
  refine lv_aload_n S.1 S.2.1 dX6_init_4 rfl (lv_at hl 0 rfl) ?_
  refine lv_sipush (v := 640) S.1 S.2.1 dX6_init_5 (by decide) ?_
  refine b_newi (N' := 640) S (by decide +kernel) hK 0 rfl hP hD hS hA (by decide) (by decide) (by decide) (Nat.le_of_ble_eq_true rfl) (Nat.le_of_ble_eq_true rfl) dX6_init_8 (fun q_1 H hP hD hS => ?_)
  have hP : va_P D vwCl [(h0, .inr (6, [.null, .null, .null, .null])), (q_1, .inl (cI, 640, .inl (fun _ => 0)))] H := hP
  have hD : va_D A [(h0, .inr (6, [.null, .null, .null, .null])), (q_1, .inl (cI, 640, .inl (fun _ => 0)))] := hD
  refine W.widen (k := 1) (n := 640) (by omega) (by omega) ?_
  refine b_putF (v := .ref q_1) S iX6 tyX6 tyX6_ok nmX6 hK hP hD hS 0 rfl rfl 0 (by decide) (by decide +kernel) rfl X.2.2.2 rfl rfl rfl (Nat.le_of_ble_eq_true rfl) dX6_init_10 (fun H locs hP hD hS => ?_)
  have hP : va_P D vwCl [(h0, .inr (6, [.ref q_1, .null, .null, .null])), (q_1, .inl (cI, 640, .inl (fun _ => 0)))] H := hP
  have hD : va_D A [(h0, .inr (6, [.ref q_1, .null, .null, .null])), (q_1, .inl (cI, 640, .inl (fun _ => 0)))] := hD
  refine lv_aload_n S.1 S.2.1 dX6_init_13 rfl (lv_at hl 0 rfl) ?_
  refine lv_sipush (v := 640) S.1 S.2.1 dX6_init_14 (by decide) ?_
  refine b_newi (N' := 640) S (by decide +kernel) hK 0 rfl hP hD hS hA (by decide) (by decide) (by decide) (Nat.le_of_ble_eq_true rfl) (Nat.le_of_ble_eq_true rfl) dX6_init_17 (fun q_2 H hP hD hS => ?_)
  have hP : va_P D vwCl [(h0, .inr (6, [.ref q_1, .null, .null, .null])), (q_1, .inl (cI, 640, .inl (fun _ => 0))), (q_2, .inl (cI, 640, .inl (fun _ => 0)))] H := hP
  have hD : va_D A [(h0, .inr (6, [.ref q_1, .null, .null, .null])), (q_1, .inl (cI, 640, .inl (fun _ => 0))), (q_2, .inl (cI, 640, .inl (fun _ => 0)))] := hD
  refine W.widen (k := 2) (n := 1280) (by omega) (by omega) ?_
  refine b_putF (v := .ref q_2) S iX6 tyX6 tyX6_ok nmX6 hK hP hD hS 0 rfl rfl 1 (by decide) (by decide +kernel) rfl X.2.2.2 rfl rfl rfl (Nat.le_of_ble_eq_true rfl) dX6_init_19 (fun H locs hP hD hS => ?_)
  have hP : va_P D vwCl [(h0, .inr (6, [.ref q_1, .ref q_2, .null, .null])), (q_1, .inl (cI, 640, .inl (fun _ => 0))), (q_2, .inl (cI, 640, .inl (fun _ => 0)))] H := hP
  have hD : va_D A [(h0, .inr (6, [.ref q_1, .ref q_2, .null, .null])), (q_1, .inl (cI, 640, .inl (fun _ => 0))), (q_2, .inl (cI, 640, .inl (fun _ => 0)))] := hD
  refine lv_aload_n S.1 S.2.1 dX6_init_22 rfl (lv_at hl 0 rfl) ?_
  refine lv_sipush (v := 640) S.1 S.2.1 dX6_init_23 (by decide) ?_
  refine b_newi (N' := 640) S (by decide +kernel) hK 0 rfl hP hD hS hA (by decide) (by decide) (by decide) (Nat.le_of_ble_eq_true rfl) (Nat.le_of_ble_eq_true rfl) dX6_init_26 (fun q_3 H hP hD hS => ?_)
  have hP : va_P D vwCl [(h0, .inr (6, [.ref q_1, .ref q_2, .null, .null])), (q_1, .inl (cI, 640, .inl (fun _ => 0))), (q_2, .inl (cI, 640, .inl (fun _ => 0))), (q_3, .inl (cI, 640, .inl (fun _ => 0)))] H := hP
  have hD : va_D A [(h0, .inr (6, [.ref q_1, .ref q_2, .null, .null])), (q_1, .inl (cI, 640, .inl (fun _ => 0))), (q_2, .inl (cI, 640, .inl (fun _ => 0))), (q_3, .inl (cI, 640, .inl (fun _ => 0)))] := hD
  refine W.widen (k := 3) (n := 1920) (by omega) (by omega) ?_
  refine b_putF (v := .ref q_3) S iX6 tyX6 tyX6_ok nmX6 hK hP hD hS 0 rfl rfl 2 (by decide) (by decide +kernel) rfl X.2.2.2 rfl rfl rfl (Nat.le_of_ble_eq_true rfl) dX6_init_28 (fun H locs hP hD hS => ?_)
  have hP : va_P D vwCl [(h0, .inr (6, [.ref q_1, .ref q_2, .ref q_3, .null])), (q_1, .inl (cI, 640, .inl (fun _ => 0))), (q_2, .inl (cI, 640, .inl (fun _ => 0))), (q_3, .inl (cI, 640, .inl (fun _ => 0)))] H := hP
  have hD : va_D A [(h0, .inr (6, [.ref q_1, .ref q_2, .ref q_3, .null])), (q_1, .inl (cI, 640, .inl (fun _ => 0))), (q_2, .inl (cI, 640, .inl (fun _ => 0))), (q_3, .inl (cI, 640, .inl (fun _ => 0)))] := hD
  refine lv_aload_n S.1 S.2.1 dX6_init_31 rfl (lv_at hl 0 rfl) ?_
  refine lv_sipush (v := 640) S.1 S.2.1 dX6_init_32 (by decide) ?_
  refine b_newi (N' := 640) S (by decide +kernel) hK 0 rfl hP hD hS hA (by decide) (by decide) (by decide) (Nat.le_of_ble_eq_true rfl) (Nat.le_of_ble_eq_true rfl) dX6_init_35 (fun q_4 H hP hD hS => ?_)
  have hP : va_P D vwCl [(h0, .inr (6, [.ref q_1, .ref q_2, .ref q_3, .null])), (q_1, .inl (cI, 640, .inl (fun _ => 0))), (q_2, .inl (cI, 640, .inl (fun _ => 0))), (q_3, .inl (cI, 640, .inl (fun _ => 0))), (q_4, .inl (cI, 640, .inl (fun _ => 0)))] H := hP
  have hD : va_D A [(h0, .inr (6, [.ref q_1, .ref q_2, .ref q_3, .null])), (q_1, .inl (cI, 640, .inl (fun _ => 0))), (q_2, .inl (cI, 640, .inl (fun _ => 0))), (q_3, .inl (cI, 640, .inl (fun _ => 0))), (q_4, .inl (cI, 640, .inl (fun _ => 0)))] := hD
  refine W.widen (k := 4) (n := 2560) (by omega) (by omega) ?_
  refine b_putF (v := .ref q_4) S iX6 tyX6 tyX6_ok nmX6 hK hP hD hS 0 rfl rfl 3 (by decide) (by decide +kernel) rfl X.2.2.2 rfl rfl rfl (Nat.le_of_ble_eq_true rfl) dX6_init_37 (fun H locs hP hD hS => ?_)
  have hP : va_P D vwCl [(h0, .inr (6, [.ref q_1, .ref q_2, .ref q_3, .ref q_4])), (q_1, .inl (cI, 640, .inl (fun _ => 0))), (q_2, .inl (cI, 640, .inl (fun _ => 0))), (q_3, .inl (cI, 640, .inl (fun _ => 0))), (q_4, .inl (cI, 640, .inl (fun _ => 0)))] H := hP
  have hD : va_D A [(h0, .inr (6, [.ref q_1, .ref q_2, .ref q_3, .ref q_4])), (q_1, .inl (cI, 640, .inl (fun _ => 0))), (q_2, .inl (cI, 640, .inl (fun _ => 0))), (q_3, .inl (cI, 640, .inl (fun _ => 0))), (q_4, .inl (cI, 640, .inl (fun _ => 0)))] := hD
  exact b_vret S.1 S.2.1 X.2.1 X.2.2.1 hP hD hS ⟨q_1, q_2, q_3, q_4, rfl⟩ dX6_init_40
set_option maxHeartbeats 4000000 in
set_option maxRecDepth 100000 in
theorem c_X7_init (l : Launch) (D : va_G) (cI cZ cC cS : ClassId) (sq : Nat → Nat) (sz : Nat) (h0 : Nat) (ct : Nat) (vw : Nat) (aCells : Nat) (aPrices : Nat) (aFree : Nat) (aPlaces : Nat) (aHomes : Nat) (aManners : Nat) (aGone : Nat) (aPaid : Nat) (aBlinks : Nat) : mV l yX7_init wsX7_init 1 12 4 1447 D (tyW cI cZ cC cS) sq [(h0, .inr (7, [.null, .null, .null, .null, .null, .null, .null, .int 0, .int 0, .int 0, .int 0])), (ct, .inr (1, [.int 0, .int 0, .int 0, .ref aCells, .ref aPrices, .ref aFree, .ref aPlaces, .ref aHomes, .ref aManners, .ref aGone, .ref aPaid, .ref aBlinks]))] sz [.ref h0, .ref ct, .ref vw] (fun w => ∃ (q1 : Nat), ∃ (q2 : Nat), ∃ (q3 : Nat), ∃ (q4 : Nat), w = [(h0, .inr (7, [.ref ct, .ref vw, .ref aPrices, .ref q1, .ref q2, .ref q3, .ref q4, .int 0, .int 0, .int 0, .int 0])), (ct, .inr (1, [.int 0, .int 0, .int 0, .ref aCells, .ref aPrices, .ref aFree, .ref aPlaces, .ref aHomes, .ref aManners, .ref aGone, .ref aPaid, .ref aBlinks])), (q1, .inl (cI, 7, .inl (fun _ => 0))), (q2, .inl (cI, 480, .inl (fun _ => 0))), (q3, .inl (cI, 480, .inl (fun _ => 0))), (q4, .inl (cI, 480, .inl (fun _ => 0)))]) := by
  refine b_metV (cc := cX7_init) (maxL := 3) (ret := none) (by decide) rfl (Nat.le_of_ble_eq_true rfl) ?_
  intro p e s m below meth c ls A H X hsz hP hK hT hD hA hS hl
  have S : CallFix p m c cX7_init 3 s ([.ref h0, .ref ct, .ref vw] : List Value).toArray wsX7_init RX7 := X.1
  have hl : lv_has ls 3 [(0, .ref h0), (1, .ref ct), (2, .ref vw)] := hl
  have iX1 := jX7_init_X1
  have iX7 := jX7_init_X7
  refine lv_aload_n S.1 S.2.1 dX7_init_0 rfl (lv_at hl 0 rfl) ?_
  refine W.objInit S.1 S.2.1 S.2.2.2.1 (S.2.2.2.2 (.methodLink RX7 5 objectInit) (by decide +kernel)) (S.2.2.2.2 (.instanceMethod objectInit) (by decide +kernel)) (S.2.2.2.2 _ oi_X7_init) rfl (S.2.2.1.trans hl.1.symm).symm rfl dX7_init_1 (Nat.le_of_ble_eq_true rfl) (Nat.le_of_ble_eq_true rfl) ?_
  refine W.eq (g2 := F0 m 4 ls []) rfl ?_
  refine lv_aload_n S.1 S.2.1 dX7_init_4 rfl (lv_at hl 0 rfl) ?_
  refine lv_bipush (v := 7) S.1 S.2.1 dX7_init_5 (by decide) ?_
  refine b_newi (N' := 7) S (by decide +kernel) hK 0 rfl hP hD hS hA (by decide) (by decide) (by decide) (Nat.le_of_ble_eq_true rfl) (Nat.le_of_ble_eq_true rfl) dX7_init_7 (fun q_1 H hP hD hS => ?_)
  have hP : va_P D vwCl [(h0, .inr (7, [.null, .null, .null, .null, .null, .null, .null, .int 0, .int 0, .int 0, .int 0])), (ct, .inr (1, [.int 0, .int 0, .int 0, .ref aCells, .ref aPrices, .ref aFree, .ref aPlaces, .ref aHomes, .ref aManners, .ref aGone, .ref aPaid, .ref aBlinks])), (q_1, .inl (cI, 7, .inl (fun _ => 0)))] H := hP
  have hD : va_D A [(h0, .inr (7, [.null, .null, .null, .null, .null, .null, .null, .int 0, .int 0, .int 0, .int 0])), (ct, .inr (1, [.int 0, .int 0, .int 0, .ref aCells, .ref aPrices, .ref aFree, .ref aPlaces, .ref aHomes, .ref aManners, .ref aGone, .ref aPaid, .ref aBlinks])), (q_1, .inl (cI, 7, .inl (fun _ => 0)))] := hD
  refine W.widen (k := 1) (n := 7) (by omega) (by omega) ?_
  refine b_putF (v := .ref q_1) S iX7 tyX7 tyX7_ok nmX7 hK hP hD hS 0 rfl rfl 3 (by decide) (by decide +kernel) rfl X.2.2.2 rfl rfl rfl (Nat.le_of_ble_eq_true rfl) dX7_init_9 (fun H locs hP hD hS => ?_)
  have hP : va_P D vwCl [(h0, .inr (7, [.null, .null, .null, .ref q_1, .null, .null, .null, .int 0, .int 0, .int 0, .int 0])), (ct, .inr (1, [.int 0, .int 0, .int 0, .ref aCells, .ref aPrices, .ref aFree, .ref aPlaces, .ref aHomes, .ref aManners, .ref aGone, .ref aPaid, .ref aBlinks])), (q_1, .inl (cI, 7, .inl (fun _ => 0)))] H := hP
  have hD : va_D A [(h0, .inr (7, [.null, .null, .null, .ref q_1, .null, .null, .null, .int 0, .int 0, .int 0, .int 0])), (ct, .inr (1, [.int 0, .int 0, .int 0, .ref aCells, .ref aPrices, .ref aFree, .ref aPlaces, .ref aHomes, .ref aManners, .ref aGone, .ref aPaid, .ref aBlinks])), (q_1, .inl (cI, 7, .inl (fun _ => 0)))] := hD
  refine lv_aload_n S.1 S.2.1 dX7_init_12 rfl (lv_at hl 0 rfl) ?_
  refine lv_sipush (v := 480) S.1 S.2.1 dX7_init_13 (by decide) ?_
  refine b_newi (N' := 480) S (by decide +kernel) hK 0 rfl hP hD hS hA (by decide) (by decide) (by decide) (Nat.le_of_ble_eq_true rfl) (Nat.le_of_ble_eq_true rfl) dX7_init_16 (fun q_2 H hP hD hS => ?_)
  have hP : va_P D vwCl [(h0, .inr (7, [.null, .null, .null, .ref q_1, .null, .null, .null, .int 0, .int 0, .int 0, .int 0])), (ct, .inr (1, [.int 0, .int 0, .int 0, .ref aCells, .ref aPrices, .ref aFree, .ref aPlaces, .ref aHomes, .ref aManners, .ref aGone, .ref aPaid, .ref aBlinks])), (q_1, .inl (cI, 7, .inl (fun _ => 0))), (q_2, .inl (cI, 480, .inl (fun _ => 0)))] H := hP
  have hD : va_D A [(h0, .inr (7, [.null, .null, .null, .ref q_1, .null, .null, .null, .int 0, .int 0, .int 0, .int 0])), (ct, .inr (1, [.int 0, .int 0, .int 0, .ref aCells, .ref aPrices, .ref aFree, .ref aPlaces, .ref aHomes, .ref aManners, .ref aGone, .ref aPaid, .ref aBlinks])), (q_1, .inl (cI, 7, .inl (fun _ => 0))), (q_2, .inl (cI, 480, .inl (fun _ => 0)))] := hD
  refine W.widen (k := 2) (n := 487) (by omega) (by omega) ?_
  refine b_putF (v := .ref q_2) S iX7 tyX7 tyX7_ok nmX7 hK hP hD hS 0 rfl rfl 4 (by decide) (by decide +kernel) rfl X.2.2.2 rfl rfl rfl (Nat.le_of_ble_eq_true rfl) dX7_init_18 (fun H locs hP hD hS => ?_)
  have hP : va_P D vwCl [(h0, .inr (7, [.null, .null, .null, .ref q_1, .ref q_2, .null, .null, .int 0, .int 0, .int 0, .int 0])), (ct, .inr (1, [.int 0, .int 0, .int 0, .ref aCells, .ref aPrices, .ref aFree, .ref aPlaces, .ref aHomes, .ref aManners, .ref aGone, .ref aPaid, .ref aBlinks])), (q_1, .inl (cI, 7, .inl (fun _ => 0))), (q_2, .inl (cI, 480, .inl (fun _ => 0)))] H := hP
  have hD : va_D A [(h0, .inr (7, [.null, .null, .null, .ref q_1, .ref q_2, .null, .null, .int 0, .int 0, .int 0, .int 0])), (ct, .inr (1, [.int 0, .int 0, .int 0, .ref aCells, .ref aPrices, .ref aFree, .ref aPlaces, .ref aHomes, .ref aManners, .ref aGone, .ref aPaid, .ref aBlinks])), (q_1, .inl (cI, 7, .inl (fun _ => 0))), (q_2, .inl (cI, 480, .inl (fun _ => 0)))] := hD
  refine lv_aload_n S.1 S.2.1 dX7_init_21 rfl (lv_at hl 0 rfl) ?_
  refine lv_sipush (v := 480) S.1 S.2.1 dX7_init_22 (by decide) ?_
  refine b_newi (N' := 480) S (by decide +kernel) hK 0 rfl hP hD hS hA (by decide) (by decide) (by decide) (Nat.le_of_ble_eq_true rfl) (Nat.le_of_ble_eq_true rfl) dX7_init_25 (fun q_3 H hP hD hS => ?_)
  have hP : va_P D vwCl [(h0, .inr (7, [.null, .null, .null, .ref q_1, .ref q_2, .null, .null, .int 0, .int 0, .int 0, .int 0])), (ct, .inr (1, [.int 0, .int 0, .int 0, .ref aCells, .ref aPrices, .ref aFree, .ref aPlaces, .ref aHomes, .ref aManners, .ref aGone, .ref aPaid, .ref aBlinks])), (q_1, .inl (cI, 7, .inl (fun _ => 0))), (q_2, .inl (cI, 480, .inl (fun _ => 0))), (q_3, .inl (cI, 480, .inl (fun _ => 0)))] H := hP
  have hD : va_D A [(h0, .inr (7, [.null, .null, .null, .ref q_1, .ref q_2, .null, .null, .int 0, .int 0, .int 0, .int 0])), (ct, .inr (1, [.int 0, .int 0, .int 0, .ref aCells, .ref aPrices, .ref aFree, .ref aPlaces, .ref aHomes, .ref aManners, .ref aGone, .ref aPaid, .ref aBlinks])), (q_1, .inl (cI, 7, .inl (fun _ => 0))), (q_2, .inl (cI, 480, .inl (fun _ => 0))), (q_3, .inl (cI, 480, .inl (fun _ => 0)))] := hD
  refine W.widen (k := 3) (n := 967) (by omega) (by omega) ?_
  refine b_putF (v := .ref q_3) S iX7 tyX7 tyX7_ok nmX7 hK hP hD hS 0 rfl rfl 5 (by decide) (by decide +kernel) rfl X.2.2.2 rfl rfl rfl (Nat.le_of_ble_eq_true rfl) dX7_init_27 (fun H locs hP hD hS => ?_)
  have hP : va_P D vwCl [(h0, .inr (7, [.null, .null, .null, .ref q_1, .ref q_2, .ref q_3, .null, .int 0, .int 0, .int 0, .int 0])), (ct, .inr (1, [.int 0, .int 0, .int 0, .ref aCells, .ref aPrices, .ref aFree, .ref aPlaces, .ref aHomes, .ref aManners, .ref aGone, .ref aPaid, .ref aBlinks])), (q_1, .inl (cI, 7, .inl (fun _ => 0))), (q_2, .inl (cI, 480, .inl (fun _ => 0))), (q_3, .inl (cI, 480, .inl (fun _ => 0)))] H := hP
  have hD : va_D A [(h0, .inr (7, [.null, .null, .null, .ref q_1, .ref q_2, .ref q_3, .null, .int 0, .int 0, .int 0, .int 0])), (ct, .inr (1, [.int 0, .int 0, .int 0, .ref aCells, .ref aPrices, .ref aFree, .ref aPlaces, .ref aHomes, .ref aManners, .ref aGone, .ref aPaid, .ref aBlinks])), (q_1, .inl (cI, 7, .inl (fun _ => 0))), (q_2, .inl (cI, 480, .inl (fun _ => 0))), (q_3, .inl (cI, 480, .inl (fun _ => 0)))] := hD
  refine lv_aload_n S.1 S.2.1 dX7_init_30 rfl (lv_at hl 0 rfl) ?_
  refine lv_sipush (v := 480) S.1 S.2.1 dX7_init_31 (by decide) ?_
  refine b_newi (N' := 480) S (by decide +kernel) hK 0 rfl hP hD hS hA (by decide) (by decide) (by decide) (Nat.le_of_ble_eq_true rfl) (Nat.le_of_ble_eq_true rfl) dX7_init_34 (fun q_4 H hP hD hS => ?_)
  have hP : va_P D vwCl [(h0, .inr (7, [.null, .null, .null, .ref q_1, .ref q_2, .ref q_3, .null, .int 0, .int 0, .int 0, .int 0])), (ct, .inr (1, [.int 0, .int 0, .int 0, .ref aCells, .ref aPrices, .ref aFree, .ref aPlaces, .ref aHomes, .ref aManners, .ref aGone, .ref aPaid, .ref aBlinks])), (q_1, .inl (cI, 7, .inl (fun _ => 0))), (q_2, .inl (cI, 480, .inl (fun _ => 0))), (q_3, .inl (cI, 480, .inl (fun _ => 0))), (q_4, .inl (cI, 480, .inl (fun _ => 0)))] H := hP
  have hD : va_D A [(h0, .inr (7, [.null, .null, .null, .ref q_1, .ref q_2, .ref q_3, .null, .int 0, .int 0, .int 0, .int 0])), (ct, .inr (1, [.int 0, .int 0, .int 0, .ref aCells, .ref aPrices, .ref aFree, .ref aPlaces, .ref aHomes, .ref aManners, .ref aGone, .ref aPaid, .ref aBlinks])), (q_1, .inl (cI, 7, .inl (fun _ => 0))), (q_2, .inl (cI, 480, .inl (fun _ => 0))), (q_3, .inl (cI, 480, .inl (fun _ => 0))), (q_4, .inl (cI, 480, .inl (fun _ => 0)))] := hD
  refine W.widen (k := 4) (n := 1447) (by omega) (by omega) ?_
  refine b_putF (v := .ref q_4) S iX7 tyX7 tyX7_ok nmX7 hK hP hD hS 0 rfl rfl 6 (by decide) (by decide +kernel) rfl X.2.2.2 rfl rfl rfl (Nat.le_of_ble_eq_true rfl) dX7_init_36 (fun H locs hP hD hS => ?_)
  have hP : va_P D vwCl [(h0, .inr (7, [.null, .null, .null, .ref q_1, .ref q_2, .ref q_3, .ref q_4, .int 0, .int 0, .int 0, .int 0])), (ct, .inr (1, [.int 0, .int 0, .int 0, .ref aCells, .ref aPrices, .ref aFree, .ref aPlaces, .ref aHomes, .ref aManners, .ref aGone, .ref aPaid, .ref aBlinks])), (q_1, .inl (cI, 7, .inl (fun _ => 0))), (q_2, .inl (cI, 480, .inl (fun _ => 0))), (q_3, .inl (cI, 480, .inl (fun _ => 0))), (q_4, .inl (cI, 480, .inl (fun _ => 0)))] H := hP
  have hD : va_D A [(h0, .inr (7, [.null, .null, .null, .ref q_1, .ref q_2, .ref q_3, .ref q_4, .int 0, .int 0, .int 0, .int 0])), (ct, .inr (1, [.int 0, .int 0, .int 0, .ref aCells, .ref aPrices, .ref aFree, .ref aPlaces, .ref aHomes, .ref aManners, .ref aGone, .ref aPaid, .ref aBlinks])), (q_1, .inl (cI, 7, .inl (fun _ => 0))), (q_2, .inl (cI, 480, .inl (fun _ => 0))), (q_3, .inl (cI, 480, .inl (fun _ => 0))), (q_4, .inl (cI, 480, .inl (fun _ => 0)))] := hD
  refine lv_aload_n S.1 S.2.1 dX7_init_39 rfl (lv_at hl 0 rfl) ?_
  refine lv_iconst (v := 0) S.1 S.2.1 dX7_init_40 (by decide) ?_
  refine b_put (v := .int 0) S iX7 tyX7 tyX7_ok nmX7 hK hP hD hS 0 rfl rfl 7 (by decide) (by decide +kernel) rfl rfl rfl (Nat.le_of_ble_eq_true rfl) dX7_init_41 (fun H locs hP hD hS => ?_)
  have hP : va_P D vwCl [(h0, .inr (7, [.null, .null, .null, .ref q_1, .ref q_2, .ref q_3, .ref q_4, .int 0, .int 0, .int 0, .int 0])), (ct, .inr (1, [.int 0, .int 0, .int 0, .ref aCells, .ref aPrices, .ref aFree, .ref aPlaces, .ref aHomes, .ref aManners, .ref aGone, .ref aPaid, .ref aBlinks])), (q_1, .inl (cI, 7, .inl (fun _ => 0))), (q_2, .inl (cI, 480, .inl (fun _ => 0))), (q_3, .inl (cI, 480, .inl (fun _ => 0))), (q_4, .inl (cI, 480, .inl (fun _ => 0)))] H := hP
  have hD : va_D A [(h0, .inr (7, [.null, .null, .null, .ref q_1, .ref q_2, .ref q_3, .ref q_4, .int 0, .int 0, .int 0, .int 0])), (ct, .inr (1, [.int 0, .int 0, .int 0, .ref aCells, .ref aPrices, .ref aFree, .ref aPlaces, .ref aHomes, .ref aManners, .ref aGone, .ref aPaid, .ref aBlinks])), (q_1, .inl (cI, 7, .inl (fun _ => 0))), (q_2, .inl (cI, 480, .inl (fun _ => 0))), (q_3, .inl (cI, 480, .inl (fun _ => 0))), (q_4, .inl (cI, 480, .inl (fun _ => 0)))] := hD
  refine lv_aload_n S.1 S.2.1 dX7_init_44 rfl (lv_at hl 0 rfl) ?_
  refine lv_iconst (v := 0) S.1 S.2.1 dX7_init_45 (by decide) ?_
  refine b_put (v := .int 0) S iX7 tyX7 tyX7_ok nmX7 hK hP hD hS 0 rfl rfl 8 (by decide) (by decide +kernel) rfl rfl rfl (Nat.le_of_ble_eq_true rfl) dX7_init_46 (fun H locs hP hD hS => ?_)
  have hP : va_P D vwCl [(h0, .inr (7, [.null, .null, .null, .ref q_1, .ref q_2, .ref q_3, .ref q_4, .int 0, .int 0, .int 0, .int 0])), (ct, .inr (1, [.int 0, .int 0, .int 0, .ref aCells, .ref aPrices, .ref aFree, .ref aPlaces, .ref aHomes, .ref aManners, .ref aGone, .ref aPaid, .ref aBlinks])), (q_1, .inl (cI, 7, .inl (fun _ => 0))), (q_2, .inl (cI, 480, .inl (fun _ => 0))), (q_3, .inl (cI, 480, .inl (fun _ => 0))), (q_4, .inl (cI, 480, .inl (fun _ => 0)))] H := hP
  have hD : va_D A [(h0, .inr (7, [.null, .null, .null, .ref q_1, .ref q_2, .ref q_3, .ref q_4, .int 0, .int 0, .int 0, .int 0])), (ct, .inr (1, [.int 0, .int 0, .int 0, .ref aCells, .ref aPrices, .ref aFree, .ref aPlaces, .ref aHomes, .ref aManners, .ref aGone, .ref aPaid, .ref aBlinks])), (q_1, .inl (cI, 7, .inl (fun _ => 0))), (q_2, .inl (cI, 480, .inl (fun _ => 0))), (q_3, .inl (cI, 480, .inl (fun _ => 0))), (q_4, .inl (cI, 480, .inl (fun _ => 0)))] := hD
  refine lv_aload_n S.1 S.2.1 dX7_init_49 rfl (lv_at hl 0 rfl) ?_
  refine lv_iconst (v := 0) S.1 S.2.1 dX7_init_50 (by decide) ?_
  refine b_put (v := .int 0) S iX7 tyX7 tyX7_ok nmX7 hK hP hD hS 0 rfl rfl 9 (by decide) (by decide +kernel) rfl rfl rfl (Nat.le_of_ble_eq_true rfl) dX7_init_51 (fun H locs hP hD hS => ?_)
  have hP : va_P D vwCl [(h0, .inr (7, [.null, .null, .null, .ref q_1, .ref q_2, .ref q_3, .ref q_4, .int 0, .int 0, .int 0, .int 0])), (ct, .inr (1, [.int 0, .int 0, .int 0, .ref aCells, .ref aPrices, .ref aFree, .ref aPlaces, .ref aHomes, .ref aManners, .ref aGone, .ref aPaid, .ref aBlinks])), (q_1, .inl (cI, 7, .inl (fun _ => 0))), (q_2, .inl (cI, 480, .inl (fun _ => 0))), (q_3, .inl (cI, 480, .inl (fun _ => 0))), (q_4, .inl (cI, 480, .inl (fun _ => 0)))] H := hP
  have hD : va_D A [(h0, .inr (7, [.null, .null, .null, .ref q_1, .ref q_2, .ref q_3, .ref q_4, .int 0, .int 0, .int 0, .int 0])), (ct, .inr (1, [.int 0, .int 0, .int 0, .ref aCells, .ref aPrices, .ref aFree, .ref aPlaces, .ref aHomes, .ref aManners, .ref aGone, .ref aPaid, .ref aBlinks])), (q_1, .inl (cI, 7, .inl (fun _ => 0))), (q_2, .inl (cI, 480, .inl (fun _ => 0))), (q_3, .inl (cI, 480, .inl (fun _ => 0))), (q_4, .inl (cI, 480, .inl (fun _ => 0)))] := hD
  refine lv_aload_n S.1 S.2.1 dX7_init_54 rfl (lv_at hl 0 rfl) ?_
  refine lv_iconst (v := 0) S.1 S.2.1 dX7_init_55 (by decide) ?_
  refine b_put (v := .int 0) S iX7 tyX7 tyX7_ok nmX7 hK hP hD hS 0 rfl rfl 10 (by decide) (by decide +kernel) rfl rfl rfl (Nat.le_of_ble_eq_true rfl) dX7_init_56 (fun H locs hP hD hS => ?_)
  have hP : va_P D vwCl [(h0, .inr (7, [.null, .null, .null, .ref q_1, .ref q_2, .ref q_3, .ref q_4, .int 0, .int 0, .int 0, .int 0])), (ct, .inr (1, [.int 0, .int 0, .int 0, .ref aCells, .ref aPrices, .ref aFree, .ref aPlaces, .ref aHomes, .ref aManners, .ref aGone, .ref aPaid, .ref aBlinks])), (q_1, .inl (cI, 7, .inl (fun _ => 0))), (q_2, .inl (cI, 480, .inl (fun _ => 0))), (q_3, .inl (cI, 480, .inl (fun _ => 0))), (q_4, .inl (cI, 480, .inl (fun _ => 0)))] H := hP
  have hD : va_D A [(h0, .inr (7, [.null, .null, .null, .ref q_1, .ref q_2, .ref q_3, .ref q_4, .int 0, .int 0, .int 0, .int 0])), (ct, .inr (1, [.int 0, .int 0, .int 0, .ref aCells, .ref aPrices, .ref aFree, .ref aPlaces, .ref aHomes, .ref aManners, .ref aGone, .ref aPaid, .ref aBlinks])), (q_1, .inl (cI, 7, .inl (fun _ => 0))), (q_2, .inl (cI, 480, .inl (fun _ => 0))), (q_3, .inl (cI, 480, .inl (fun _ => 0))), (q_4, .inl (cI, 480, .inl (fun _ => 0)))] := hD
  refine lv_aload_n S.1 S.2.1 dX7_init_59 rfl (lv_at hl 0 rfl) ?_
  refine lv_aload_n S.1 S.2.1 dX7_init_60 rfl (lv_at hl 1 rfl) ?_
  refine b_putF (v := .ref ct) S iX7 tyX7 tyX7_ok nmX7 hK hP hD hS 0 rfl rfl 0 (by decide) (by decide +kernel) rfl X.2.2.2 rfl rfl rfl (Nat.le_of_ble_eq_true rfl) dX7_init_61 (fun H locs hP hD hS => ?_)
  have hP : va_P D vwCl [(h0, .inr (7, [.ref ct, .null, .null, .ref q_1, .ref q_2, .ref q_3, .ref q_4, .int 0, .int 0, .int 0, .int 0])), (ct, .inr (1, [.int 0, .int 0, .int 0, .ref aCells, .ref aPrices, .ref aFree, .ref aPlaces, .ref aHomes, .ref aManners, .ref aGone, .ref aPaid, .ref aBlinks])), (q_1, .inl (cI, 7, .inl (fun _ => 0))), (q_2, .inl (cI, 480, .inl (fun _ => 0))), (q_3, .inl (cI, 480, .inl (fun _ => 0))), (q_4, .inl (cI, 480, .inl (fun _ => 0)))] H := hP
  have hD : va_D A [(h0, .inr (7, [.ref ct, .null, .null, .ref q_1, .ref q_2, .ref q_3, .ref q_4, .int 0, .int 0, .int 0, .int 0])), (ct, .inr (1, [.int 0, .int 0, .int 0, .ref aCells, .ref aPrices, .ref aFree, .ref aPlaces, .ref aHomes, .ref aManners, .ref aGone, .ref aPaid, .ref aBlinks])), (q_1, .inl (cI, 7, .inl (fun _ => 0))), (q_2, .inl (cI, 480, .inl (fun _ => 0))), (q_3, .inl (cI, 480, .inl (fun _ => 0))), (q_4, .inl (cI, 480, .inl (fun _ => 0)))] := hD
  refine lv_aload_n S.1 S.2.1 dX7_init_64 rfl (lv_at hl 0 rfl) ?_
  refine lv_aload_n S.1 S.2.1 dX7_init_65 rfl (lv_at hl 2 rfl) ?_
  refine b_put (v := .ref vw) S iX7 tyX7 tyX7_ok nmX7 hK hP hD hS 0 rfl rfl 1 (by decide) (by decide +kernel) rfl rfl rfl (Nat.le_of_ble_eq_true rfl) dX7_init_66 (fun H locs hP hD hS => ?_)
  have hP : va_P D vwCl [(h0, .inr (7, [.ref ct, .ref vw, .null, .ref q_1, .ref q_2, .ref q_3, .ref q_4, .int 0, .int 0, .int 0, .int 0])), (ct, .inr (1, [.int 0, .int 0, .int 0, .ref aCells, .ref aPrices, .ref aFree, .ref aPlaces, .ref aHomes, .ref aManners, .ref aGone, .ref aPaid, .ref aBlinks])), (q_1, .inl (cI, 7, .inl (fun _ => 0))), (q_2, .inl (cI, 480, .inl (fun _ => 0))), (q_3, .inl (cI, 480, .inl (fun _ => 0))), (q_4, .inl (cI, 480, .inl (fun _ => 0)))] H := hP
  have hD : va_D A [(h0, .inr (7, [.ref ct, .ref vw, .null, .ref q_1, .ref q_2, .ref q_3, .ref q_4, .int 0, .int 0, .int 0, .int 0])), (ct, .inr (1, [.int 0, .int 0, .int 0, .ref aCells, .ref aPrices, .ref aFree, .ref aPlaces, .ref aHomes, .ref aManners, .ref aGone, .ref aPaid, .ref aBlinks])), (q_1, .inl (cI, 7, .inl (fun _ => 0))), (q_2, .inl (cI, 480, .inl (fun _ => 0))), (q_3, .inl (cI, 480, .inl (fun _ => 0))), (q_4, .inl (cI, 480, .inl (fun _ => 0)))] := hD
  refine lv_aload_n S.1 S.2.1 dX7_init_69 rfl (lv_at hl 0 rfl) ?_
  refine lv_aload_n S.1 S.2.1 dX7_init_70 rfl (lv_at hl 1 rfl) ?_
  refine b_get (v := .ref aPrices) S iX1 hK hP 1 rfl rfl 4 (by decide) (by decide +kernel) rfl dX7_init_71 ?_
  refine b_put (v := .ref aPrices) S iX7 tyX7 tyX7_ok nmX7 hK hP hD hS 0 rfl rfl 2 (by decide) (by decide +kernel) rfl rfl rfl (Nat.le_of_ble_eq_true rfl) dX7_init_74 (fun H locs hP hD hS => ?_)
  have hP : va_P D vwCl [(h0, .inr (7, [.ref ct, .ref vw, .ref aPrices, .ref q_1, .ref q_2, .ref q_3, .ref q_4, .int 0, .int 0, .int 0, .int 0])), (ct, .inr (1, [.int 0, .int 0, .int 0, .ref aCells, .ref aPrices, .ref aFree, .ref aPlaces, .ref aHomes, .ref aManners, .ref aGone, .ref aPaid, .ref aBlinks])), (q_1, .inl (cI, 7, .inl (fun _ => 0))), (q_2, .inl (cI, 480, .inl (fun _ => 0))), (q_3, .inl (cI, 480, .inl (fun _ => 0))), (q_4, .inl (cI, 480, .inl (fun _ => 0)))] H := hP
  have hD : va_D A [(h0, .inr (7, [.ref ct, .ref vw, .ref aPrices, .ref q_1, .ref q_2, .ref q_3, .ref q_4, .int 0, .int 0, .int 0, .int 0])), (ct, .inr (1, [.int 0, .int 0, .int 0, .ref aCells, .ref aPrices, .ref aFree, .ref aPlaces, .ref aHomes, .ref aManners, .ref aGone, .ref aPaid, .ref aBlinks])), (q_1, .inl (cI, 7, .inl (fun _ => 0))), (q_2, .inl (cI, 480, .inl (fun _ => 0))), (q_3, .inl (cI, 480, .inl (fun _ => 0))), (q_4, .inl (cI, 480, .inl (fun _ => 0)))] := hD
  exact b_vret S.1 S.2.1 X.2.1 X.2.2.1 hP hD hS ⟨q_1, q_2, q_3, q_4, rfl⟩ dX7_init_77
set_option maxHeartbeats 4000000 in
set_option maxRecDepth 100000 in
theorem c_X2_init (l : Launch) (D : va_G) (cI cZ cC cS : ClassId) (sq : Nat → Nat) (sz : Nat) (h0 : Nat) (ct : Nat) (wh : Nat) : mV l yX2_init wsX2_init 1 12 3 48 D (tyW cI cZ cC cS) sq [(h0, .inr (2, [.null, .null, .null, .null, .null]))] sz [.ref h0, .ref ct, .ref wh] (fun w => ∃ (q1 : Nat), ∃ (q2 : Nat), ∃ (q3 : Nat), w = [(h0, .inr (2, [.ref ct, .ref wh, .ref q1, .ref q2, .ref q3])), (q1, .inl (cI, 6, .inl (fun _ => 0))), (q2, .inl (cI, 21, .inl (fun _ => 0))), (q3, .inl (cI, 21, .inl (fun _ => 0)))]) := by
  refine b_metV (cc := cX2_init) (maxL := 3) (ret := none) (by decide) rfl (Nat.le_of_ble_eq_true rfl) ?_
  intro p e s m below meth c ls A H X hsz hP hK hT hD hA hS hl
  have S : CallFix p m c cX2_init 3 s ([.ref h0, .ref ct, .ref wh] : List Value).toArray wsX2_init RX2 := X.1
  have hl : lv_has ls 3 [(0, .ref h0), (1, .ref ct), (2, .ref wh)] := hl
  have iX2 := jX2_init_X2
  refine lv_aload_n S.1 S.2.1 dX2_init_0 rfl (lv_at hl 0 rfl) ?_
  refine W.objInit S.1 S.2.1 S.2.2.2.1 (S.2.2.2.2 (.methodLink RX2 3 objectInit) (by decide +kernel)) (S.2.2.2.2 (.instanceMethod objectInit) (by decide +kernel)) (S.2.2.2.2 _ oi_X2_init) rfl (S.2.2.1.trans hl.1.symm).symm rfl dX2_init_1 (Nat.le_of_ble_eq_true rfl) (Nat.le_of_ble_eq_true rfl) ?_
  refine W.eq (g2 := F0 m 4 ls []) rfl ?_
  refine lv_aload_n S.1 S.2.1 dX2_init_4 rfl (lv_at hl 0 rfl) ?_
  refine lv_bipush (v := 6) S.1 S.2.1 dX2_init_5 (by decide) ?_
  refine b_newi (N' := 6) S (by decide +kernel) hK 0 rfl hP hD hS hA (by decide) (by decide) (by decide) (Nat.le_of_ble_eq_true rfl) (Nat.le_of_ble_eq_true rfl) dX2_init_7 (fun q_1 H hP hD hS => ?_)
  have hP : va_P D vwCl [(h0, .inr (2, [.null, .null, .null, .null, .null])), (q_1, .inl (cI, 6, .inl (fun _ => 0)))] H := hP
  have hD : va_D A [(h0, .inr (2, [.null, .null, .null, .null, .null])), (q_1, .inl (cI, 6, .inl (fun _ => 0)))] := hD
  refine W.widen (k := 1) (n := 6) (by omega) (by omega) ?_
  refine b_putF (v := .ref q_1) S iX2 tyX2 tyX2_ok nmX2 hK hP hD hS 0 rfl rfl 2 (by decide) (by decide +kernel) rfl X.2.2.2 rfl rfl rfl (Nat.le_of_ble_eq_true rfl) dX2_init_9 (fun H locs hP hD hS => ?_)
  have hP : va_P D vwCl [(h0, .inr (2, [.null, .null, .ref q_1, .null, .null])), (q_1, .inl (cI, 6, .inl (fun _ => 0)))] H := hP
  have hD : va_D A [(h0, .inr (2, [.null, .null, .ref q_1, .null, .null])), (q_1, .inl (cI, 6, .inl (fun _ => 0)))] := hD
  refine lv_aload_n S.1 S.2.1 dX2_init_12 rfl (lv_at hl 0 rfl) ?_
  refine lv_bipush (v := 21) S.1 S.2.1 dX2_init_13 (by decide) ?_
  refine b_newi (N' := 21) S (by decide +kernel) hK 0 rfl hP hD hS hA (by decide) (by decide) (by decide) (Nat.le_of_ble_eq_true rfl) (Nat.le_of_ble_eq_true rfl) dX2_init_15 (fun q_2 H hP hD hS => ?_)
  have hP : va_P D vwCl [(h0, .inr (2, [.null, .null, .ref q_1, .null, .null])), (q_1, .inl (cI, 6, .inl (fun _ => 0))), (q_2, .inl (cI, 21, .inl (fun _ => 0)))] H := hP
  have hD : va_D A [(h0, .inr (2, [.null, .null, .ref q_1, .null, .null])), (q_1, .inl (cI, 6, .inl (fun _ => 0))), (q_2, .inl (cI, 21, .inl (fun _ => 0)))] := hD
  refine W.widen (k := 2) (n := 27) (by omega) (by omega) ?_
  refine b_putF (v := .ref q_2) S iX2 tyX2 tyX2_ok nmX2 hK hP hD hS 0 rfl rfl 3 (by decide) (by decide +kernel) rfl X.2.2.2 rfl rfl rfl (Nat.le_of_ble_eq_true rfl) dX2_init_17 (fun H locs hP hD hS => ?_)
  have hP : va_P D vwCl [(h0, .inr (2, [.null, .null, .ref q_1, .ref q_2, .null])), (q_1, .inl (cI, 6, .inl (fun _ => 0))), (q_2, .inl (cI, 21, .inl (fun _ => 0)))] H := hP
  have hD : va_D A [(h0, .inr (2, [.null, .null, .ref q_1, .ref q_2, .null])), (q_1, .inl (cI, 6, .inl (fun _ => 0))), (q_2, .inl (cI, 21, .inl (fun _ => 0)))] := hD
  refine lv_aload_n S.1 S.2.1 dX2_init_20 rfl (lv_at hl 0 rfl) ?_
  refine lv_bipush (v := 21) S.1 S.2.1 dX2_init_21 (by decide) ?_
  refine b_newi (N' := 21) S (by decide +kernel) hK 0 rfl hP hD hS hA (by decide) (by decide) (by decide) (Nat.le_of_ble_eq_true rfl) (Nat.le_of_ble_eq_true rfl) dX2_init_23 (fun q_3 H hP hD hS => ?_)
  have hP : va_P D vwCl [(h0, .inr (2, [.null, .null, .ref q_1, .ref q_2, .null])), (q_1, .inl (cI, 6, .inl (fun _ => 0))), (q_2, .inl (cI, 21, .inl (fun _ => 0))), (q_3, .inl (cI, 21, .inl (fun _ => 0)))] H := hP
  have hD : va_D A [(h0, .inr (2, [.null, .null, .ref q_1, .ref q_2, .null])), (q_1, .inl (cI, 6, .inl (fun _ => 0))), (q_2, .inl (cI, 21, .inl (fun _ => 0))), (q_3, .inl (cI, 21, .inl (fun _ => 0)))] := hD
  refine W.widen (k := 3) (n := 48) (by omega) (by omega) ?_
  refine b_putF (v := .ref q_3) S iX2 tyX2 tyX2_ok nmX2 hK hP hD hS 0 rfl rfl 4 (by decide) (by decide +kernel) rfl X.2.2.2 rfl rfl rfl (Nat.le_of_ble_eq_true rfl) dX2_init_25 (fun H locs hP hD hS => ?_)
  have hP : va_P D vwCl [(h0, .inr (2, [.null, .null, .ref q_1, .ref q_2, .ref q_3])), (q_1, .inl (cI, 6, .inl (fun _ => 0))), (q_2, .inl (cI, 21, .inl (fun _ => 0))), (q_3, .inl (cI, 21, .inl (fun _ => 0)))] H := hP
  have hD : va_D A [(h0, .inr (2, [.null, .null, .ref q_1, .ref q_2, .ref q_3])), (q_1, .inl (cI, 6, .inl (fun _ => 0))), (q_2, .inl (cI, 21, .inl (fun _ => 0))), (q_3, .inl (cI, 21, .inl (fun _ => 0)))] := hD
  refine lv_aload_n S.1 S.2.1 dX2_init_28 rfl (lv_at hl 0 rfl) ?_
  refine lv_aload_n S.1 S.2.1 dX2_init_29 rfl (lv_at hl 1 rfl) ?_
  refine b_putF (v := .ref ct) S iX2 tyX2 tyX2_ok nmX2 hK hP hD hS 0 rfl rfl 0 (by decide) (by decide +kernel) rfl X.2.2.2 rfl rfl rfl (Nat.le_of_ble_eq_true rfl) dX2_init_30 (fun H locs hP hD hS => ?_)
  have hP : va_P D vwCl [(h0, .inr (2, [.ref ct, .null, .ref q_1, .ref q_2, .ref q_3])), (q_1, .inl (cI, 6, .inl (fun _ => 0))), (q_2, .inl (cI, 21, .inl (fun _ => 0))), (q_3, .inl (cI, 21, .inl (fun _ => 0)))] H := hP
  have hD : va_D A [(h0, .inr (2, [.ref ct, .null, .ref q_1, .ref q_2, .ref q_3])), (q_1, .inl (cI, 6, .inl (fun _ => 0))), (q_2, .inl (cI, 21, .inl (fun _ => 0))), (q_3, .inl (cI, 21, .inl (fun _ => 0)))] := hD
  refine lv_aload_n S.1 S.2.1 dX2_init_33 rfl (lv_at hl 0 rfl) ?_
  refine lv_aload_n S.1 S.2.1 dX2_init_34 rfl (lv_at hl 2 rfl) ?_
  refine b_putF (v := .ref wh) S iX2 tyX2 tyX2_ok nmX2 hK hP hD hS 0 rfl rfl 1 (by decide) (by decide +kernel) rfl X.2.2.2 rfl rfl rfl (Nat.le_of_ble_eq_true rfl) dX2_init_35 (fun H locs hP hD hS => ?_)
  have hP : va_P D vwCl [(h0, .inr (2, [.ref ct, .ref wh, .ref q_1, .ref q_2, .ref q_3])), (q_1, .inl (cI, 6, .inl (fun _ => 0))), (q_2, .inl (cI, 21, .inl (fun _ => 0))), (q_3, .inl (cI, 21, .inl (fun _ => 0)))] H := hP
  have hD : va_D A [(h0, .inr (2, [.ref ct, .ref wh, .ref q_1, .ref q_2, .ref q_3])), (q_1, .inl (cI, 6, .inl (fun _ => 0))), (q_2, .inl (cI, 21, .inl (fun _ => 0))), (q_3, .inl (cI, 21, .inl (fun _ => 0)))] := hD
  exact b_vret S.1 S.2.1 X.2.1 X.2.2.1 hP hD hS ⟨q_1, q_2, q_3, rfl⟩ dX2_init_38
set_option maxHeartbeats 4000000 in
set_option maxRecDepth 100000 in
theorem c_X0_init (l : Launch) (D : va_G) (cI cZ cC cS : ClassId) (sq : Nat → Nat) (sz : Nat) (h0 : Nat) (ct : Nat) : mV l yX0_init wsX0_init 1 12 1 16 D (tyW cI cZ cC cS) sq [(h0, .inr (0, [.null, .null, .int 0]))] sz [.ref h0, .ref ct] (fun w => ∃ (q1 : Nat), w = [(h0, .inr (0, [.ref ct, .ref q1, .int 0])), (q1, .inl (cI, 16, .inl (fun _ => 0)))]) := by
  refine b_metV (cc := cX0_init) (maxL := 2) (ret := none) (by decide) rfl (Nat.le_of_ble_eq_true rfl) ?_
  intro p e s m below meth c ls A H X hsz hP hK hT hD hA hS hl
  have S : CallFix p m c cX0_init 2 s ([.ref h0, .ref ct] : List Value).toArray wsX0_init RX0 := X.1
  have hl : lv_has ls 2 [(0, .ref h0), (1, .ref ct)] := hl
  have iX0 := jX0_init_X0
  refine lv_aload_n S.1 S.2.1 dX0_init_0 rfl (lv_at hl 0 rfl) ?_
  refine W.objInit S.1 S.2.1 S.2.2.2.1 (S.2.2.2.2 (.methodLink RX0 3 objectInit) (by decide +kernel)) (S.2.2.2.2 (.instanceMethod objectInit) (by decide +kernel)) (S.2.2.2.2 _ oi_X0_init) rfl (S.2.2.1.trans hl.1.symm).symm rfl dX0_init_1 (Nat.le_of_ble_eq_true rfl) (Nat.le_of_ble_eq_true rfl) ?_
  refine W.eq (g2 := F0 m 4 ls []) rfl ?_
  refine lv_aload_n S.1 S.2.1 dX0_init_4 rfl (lv_at hl 0 rfl) ?_
  refine lv_bipush (v := 16) S.1 S.2.1 dX0_init_5 (by decide) ?_
  refine b_newi (N' := 16) S (by decide +kernel) hK 0 rfl hP hD hS hA (by decide) (by decide) (by decide) (Nat.le_of_ble_eq_true rfl) (Nat.le_of_ble_eq_true rfl) dX0_init_7 (fun q_1 H hP hD hS => ?_)
  have hP : va_P D vwCl [(h0, .inr (0, [.null, .null, .int 0])), (q_1, .inl (cI, 16, .inl (fun _ => 0)))] H := hP
  have hD : va_D A [(h0, .inr (0, [.null, .null, .int 0])), (q_1, .inl (cI, 16, .inl (fun _ => 0)))] := hD
  refine W.widen (k := 1) (n := 16) (by omega) (by omega) ?_
  refine b_putF (v := .ref q_1) S iX0 tyX0 tyX0_ok nmX0 hK hP hD hS 0 rfl rfl 1 (by decide) (by decide +kernel) rfl X.2.2.2 rfl rfl rfl (Nat.le_of_ble_eq_true rfl) dX0_init_9 (fun H locs hP hD hS => ?_)
  have hP : va_P D vwCl [(h0, .inr (0, [.null, .ref q_1, .int 0])), (q_1, .inl (cI, 16, .inl (fun _ => 0)))] H := hP
  have hD : va_D A [(h0, .inr (0, [.null, .ref q_1, .int 0])), (q_1, .inl (cI, 16, .inl (fun _ => 0)))] := hD
  refine lv_aload_n S.1 S.2.1 dX0_init_12 rfl (lv_at hl 0 rfl) ?_
  refine lv_iconst (v := 0) S.1 S.2.1 dX0_init_13 (by decide) ?_
  refine b_put (v := .int 0) S iX0 tyX0 tyX0_ok nmX0 hK hP hD hS 0 rfl rfl 2 (by decide) (by decide +kernel) rfl rfl rfl (Nat.le_of_ble_eq_true rfl) dX0_init_14 (fun H locs hP hD hS => ?_)
  have hP : va_P D vwCl [(h0, .inr (0, [.null, .ref q_1, .int 0])), (q_1, .inl (cI, 16, .inl (fun _ => 0)))] H := hP
  have hD : va_D A [(h0, .inr (0, [.null, .ref q_1, .int 0])), (q_1, .inl (cI, 16, .inl (fun _ => 0)))] := hD
  refine lv_aload_n S.1 S.2.1 dX0_init_17 rfl (lv_at hl 0 rfl) ?_
  refine lv_aload_n S.1 S.2.1 dX0_init_18 rfl (lv_at hl 1 rfl) ?_
  refine b_putF (v := .ref ct) S iX0 tyX0 tyX0_ok nmX0 hK hP hD hS 0 rfl rfl 0 (by decide) (by decide +kernel) rfl X.2.2.2 rfl rfl rfl (Nat.le_of_ble_eq_true rfl) dX0_init_19 (fun H locs hP hD hS => ?_)
  have hP : va_P D vwCl [(h0, .inr (0, [.ref ct, .ref q_1, .int 0])), (q_1, .inl (cI, 16, .inl (fun _ => 0)))] H := hP
  have hD : va_D A [(h0, .inr (0, [.ref ct, .ref q_1, .int 0])), (q_1, .inl (cI, 16, .inl (fun _ => 0)))] := hD
  exact b_vret S.1 S.2.1 X.2.1 X.2.2.1 hP hD hS ⟨q_1, rfl⟩ dX0_init_22
