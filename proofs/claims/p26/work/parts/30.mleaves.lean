set_option maxRecDepth 20000 in
theorem gdX9_byteAt_0 : decode cX9_byteAt 0 = .ok (.iload_n 1, 1) ∧ decode cX9_byteAt 1 = .ok (.aload_n 0, 1) ∧ decode cX9_byteAt 2 = .ok (.getfield 86, 3) ∧ decode cX9_byteAt 5 = .ok (.if_icmp .ge 12, 3) ∧ decode cX9_byteAt 8 = .ok (.aload_n 0, 1) ∧ decode cX9_byteAt 9 = .ok (.getfield 25, 3) ∧ decode cX9_byteAt 12 = .ok (.iload_n 1, 1) ∧ decode cX9_byteAt 13 = .ok (.iaload, 1) := by decide +kernel
theorem dX9_byteAt_0 : decode cX9_byteAt 0 = .ok (.iload_n 1, 1) := gdX9_byteAt_0.1
theorem dX9_byteAt_1 : decode cX9_byteAt 1 = .ok (.aload_n 0, 1) := gdX9_byteAt_0.2.1
theorem dX9_byteAt_2 : decode cX9_byteAt 2 = .ok (.getfield 86, 3) := gdX9_byteAt_0.2.2.1
theorem dX9_byteAt_5 : decode cX9_byteAt 5 = .ok (.if_icmp .ge 12, 3) := gdX9_byteAt_0.2.2.2.1
theorem dX9_byteAt_8 : decode cX9_byteAt 8 = .ok (.aload_n 0, 1) := gdX9_byteAt_0.2.2.2.2.1
theorem dX9_byteAt_9 : decode cX9_byteAt 9 = .ok (.getfield 25, 3) := gdX9_byteAt_0.2.2.2.2.2.1
theorem dX9_byteAt_12 : decode cX9_byteAt 12 = .ok (.iload_n 1, 1) := gdX9_byteAt_0.2.2.2.2.2.2.1
theorem dX9_byteAt_13 : decode cX9_byteAt 13 = .ok (.iaload, 1) := gdX9_byteAt_0.2.2.2.2.2.2.2
set_option maxRecDepth 20000 in
theorem gdX9_byteAt_14 : decode cX9_byteAt 14 = .ok (.goto 5, 3) ∧ decode cX9_byteAt 17 = .ok (.ldc 89, 2) ∧ decode cX9_byteAt 19 = .ok (.ireturn, 1) := by decide +kernel
theorem dX9_byteAt_14 : decode cX9_byteAt 14 = .ok (.goto 5, 3) := gdX9_byteAt_14.1
theorem dX9_byteAt_17 : decode cX9_byteAt 17 = .ok (.ldc 89, 2) := gdX9_byteAt_14.2.1
theorem dX9_byteAt_19 : decode cX9_byteAt 19 = .ok (.ireturn, 1) := gdX9_byteAt_14.2.2
set_option maxRecDepth 20000 in
theorem gdX9_cellOf_0 : decode cX9_cellOf 0 = .ok (.iload_n 0, 1) ∧ decode cX9_cellOf 1 = .ok (.bipush 111, 2) ∧ decode cX9_cellOf 3 = .ok (.if_icmp .ne 8, 3) ∧ decode cX9_cellOf 6 = .ok (.bipush (-3), 2) ∧ decode cX9_cellOf 8 = .ok (.goto 45, 3) ∧ decode cX9_cellOf 11 = .ok (.iload_n 0, 1) ∧ decode cX9_cellOf 12 = .ok (.bipush 119, 2) ∧ decode cX9_cellOf 14 = .ok (.if_icmp .ne 8, 3) := by decide +kernel
theorem dX9_cellOf_0 : decode cX9_cellOf 0 = .ok (.iload_n 0, 1) := gdX9_cellOf_0.1
theorem dX9_cellOf_1 : decode cX9_cellOf 1 = .ok (.bipush 111, 2) := gdX9_cellOf_0.2.1
theorem dX9_cellOf_3 : decode cX9_cellOf 3 = .ok (.if_icmp .ne 8, 3) := gdX9_cellOf_0.2.2.1
theorem dX9_cellOf_6 : decode cX9_cellOf 6 = .ok (.bipush (-3), 2) := gdX9_cellOf_0.2.2.2.1
theorem dX9_cellOf_8 : decode cX9_cellOf 8 = .ok (.goto 45, 3) := gdX9_cellOf_0.2.2.2.2.1
theorem dX9_cellOf_11 : decode cX9_cellOf 11 = .ok (.iload_n 0, 1) := gdX9_cellOf_0.2.2.2.2.2.1
theorem dX9_cellOf_12 : decode cX9_cellOf 12 = .ok (.bipush 119, 2) := gdX9_cellOf_0.2.2.2.2.2.2.1
theorem dX9_cellOf_14 : decode cX9_cellOf 14 = .ok (.if_icmp .ne 8, 3) := gdX9_cellOf_0.2.2.2.2.2.2.2
set_option maxRecDepth 20000 in
theorem gdX9_cellOf_17 : decode cX9_cellOf 17 = .ok (.bipush (-2), 2) ∧ decode cX9_cellOf 19 = .ok (.goto 34, 3) ∧ decode cX9_cellOf 22 = .ok (.iload_n 0, 1) ∧ decode cX9_cellOf 23 = .ok (.bipush 109, 2) ∧ decode cX9_cellOf 25 = .ok (.if_icmp .ne 7, 3) ∧ decode cX9_cellOf 28 = .ok (.iconst (-1), 1) ∧ decode cX9_cellOf 29 = .ok (.goto 24, 3) ∧ decode cX9_cellOf 32 = .ok (.iload_n 0, 1) := by decide +kernel
theorem dX9_cellOf_17 : decode cX9_cellOf 17 = .ok (.bipush (-2), 2) := gdX9_cellOf_17.1
theorem dX9_cellOf_19 : decode cX9_cellOf 19 = .ok (.goto 34, 3) := gdX9_cellOf_17.2.1
theorem dX9_cellOf_22 : decode cX9_cellOf 22 = .ok (.iload_n 0, 1) := gdX9_cellOf_17.2.2.1
theorem dX9_cellOf_23 : decode cX9_cellOf 23 = .ok (.bipush 109, 2) := gdX9_cellOf_17.2.2.2.1
theorem dX9_cellOf_25 : decode cX9_cellOf 25 = .ok (.if_icmp .ne 7, 3) := gdX9_cellOf_17.2.2.2.2.1
theorem dX9_cellOf_28 : decode cX9_cellOf 28 = .ok (.iconst (-1), 1) := gdX9_cellOf_17.2.2.2.2.2.1
theorem dX9_cellOf_29 : decode cX9_cellOf 29 = .ok (.goto 24, 3) := gdX9_cellOf_17.2.2.2.2.2.2.1
theorem dX9_cellOf_32 : decode cX9_cellOf 32 = .ok (.iload_n 0, 1) := gdX9_cellOf_17.2.2.2.2.2.2.2
set_option maxRecDepth 20000 in
theorem gdX9_cellOf_33 : decode cX9_cellOf 33 = .ok (.bipush 97, 2) ∧ decode cX9_cellOf 35 = .ok (.if_icmp .lt 16, 3) ∧ decode cX9_cellOf 38 = .ok (.iload_n 0, 1) ∧ decode cX9_cellOf 39 = .ok (.bipush 102, 2) ∧ decode cX9_cellOf 41 = .ok (.if_icmp .gt 10, 3) ∧ decode cX9_cellOf 44 = .ok (.iload_n 0, 1) ∧ decode cX9_cellOf 45 = .ok (.bipush 97, 2) ∧ decode cX9_cellOf 47 = .ok (.isub, 1) := by decide +kernel
theorem dX9_cellOf_33 : decode cX9_cellOf 33 = .ok (.bipush 97, 2) := gdX9_cellOf_33.1
theorem dX9_cellOf_35 : decode cX9_cellOf 35 = .ok (.if_icmp .lt 16, 3) := gdX9_cellOf_33.2.1
theorem dX9_cellOf_38 : decode cX9_cellOf 38 = .ok (.iload_n 0, 1) := gdX9_cellOf_33.2.2.1
theorem dX9_cellOf_39 : decode cX9_cellOf 39 = .ok (.bipush 102, 2) := gdX9_cellOf_33.2.2.2.1
theorem dX9_cellOf_41 : decode cX9_cellOf 41 = .ok (.if_icmp .gt 10, 3) := gdX9_cellOf_33.2.2.2.2.1
theorem dX9_cellOf_44 : decode cX9_cellOf 44 = .ok (.iload_n 0, 1) := gdX9_cellOf_33.2.2.2.2.2.1
theorem dX9_cellOf_45 : decode cX9_cellOf 45 = .ok (.bipush 97, 2) := gdX9_cellOf_33.2.2.2.2.2.2.1
theorem dX9_cellOf_47 : decode cX9_cellOf 47 = .ok (.isub, 1) := gdX9_cellOf_33.2.2.2.2.2.2.2
set_option maxRecDepth 20000 in
theorem gdX9_cellOf_48 : decode cX9_cellOf 48 = .ok (.goto 5, 3) ∧ decode cX9_cellOf 51 = .ok (.ldc 89, 2) ∧ decode cX9_cellOf 53 = .ok (.ireturn, 1) := by decide +kernel
theorem dX9_cellOf_48 : decode cX9_cellOf 48 = .ok (.goto 5, 3) := gdX9_cellOf_48.1
theorem dX9_cellOf_51 : decode cX9_cellOf 51 = .ok (.ldc 89, 2) := gdX9_cellOf_48.2.1
theorem dX9_cellOf_53 : decode cX9_cellOf 53 = .ok (.ireturn, 1) := gdX9_cellOf_48.2.2
set_option maxRecDepth 20000 in
theorem gdX9_east_0 : decode cX9_east 0 = .ok (.iload_n 0, 1) ∧ decode cX9_east 1 = .ok (.ifCond .eq 8, 3) ∧ decode cX9_east 4 = .ok (.iload_n 0, 1) ∧ decode cX9_east 5 = .ok (.iconst 4, 1) ∧ decode cX9_east 6 = .ok (.if_icmp .ne 7, 3) ∧ decode cX9_east 9 = .ok (.iconst 0, 1) ∧ decode cX9_east 10 = .ok (.goto 13, 3) ∧ decode cX9_east 13 = .ok (.iload_n 0, 1) := by decide +kernel
theorem dX9_east_0 : decode cX9_east 0 = .ok (.iload_n 0, 1) := gdX9_east_0.1
theorem dX9_east_1 : decode cX9_east 1 = .ok (.ifCond .eq 8, 3) := gdX9_east_0.2.1
theorem dX9_east_4 : decode cX9_east 4 = .ok (.iload_n 0, 1) := gdX9_east_0.2.2.1
theorem dX9_east_5 : decode cX9_east 5 = .ok (.iconst 4, 1) := gdX9_east_0.2.2.2.1
theorem dX9_east_6 : decode cX9_east 6 = .ok (.if_icmp .ne 7, 3) := gdX9_east_0.2.2.2.2.1
theorem dX9_east_9 : decode cX9_east 9 = .ok (.iconst 0, 1) := gdX9_east_0.2.2.2.2.2.1
theorem dX9_east_10 : decode cX9_east 10 = .ok (.goto 13, 3) := gdX9_east_0.2.2.2.2.2.2.1
theorem dX9_east_13 : decode cX9_east 13 = .ok (.iload_n 0, 1) := gdX9_east_0.2.2.2.2.2.2.2
set_option maxRecDepth 20000 in
theorem gdX9_east_14 : decode cX9_east 14 = .ok (.iconst 4, 1) ∧ decode cX9_east 15 = .ok (.if_icmp .ge 7, 3) ∧ decode cX9_east 18 = .ok (.iconst 1, 1) ∧ decode cX9_east 19 = .ok (.goto 4, 3) ∧ decode cX9_east 22 = .ok (.iconst (-1), 1) ∧ decode cX9_east 23 = .ok (.ireturn, 1) := by decide +kernel
theorem dX9_east_14 : decode cX9_east 14 = .ok (.iconst 4, 1) := gdX9_east_14.1
theorem dX9_east_15 : decode cX9_east 15 = .ok (.if_icmp .ge 7, 3) := gdX9_east_14.2.1
theorem dX9_east_18 : decode cX9_east 18 = .ok (.iconst 1, 1) := gdX9_east_14.2.2.1
theorem dX9_east_19 : decode cX9_east 19 = .ok (.goto 4, 3) := gdX9_east_14.2.2.2.1
theorem dX9_east_22 : decode cX9_east 22 = .ok (.iconst (-1), 1) := gdX9_east_14.2.2.2.2.1
theorem dX9_east_23 : decode cX9_east 23 = .ok (.ireturn, 1) := gdX9_east_14.2.2.2.2.2
set_option maxRecDepth 20000 in
theorem gdX9_finding_0 : decode cX9_finding 0 = .ok (.aload_n 0, 1) ∧ decode cX9_finding 1 = .ok (.iload_n 1, 1) ∧ decode cX9_finding 2 = .ok (.putfield 57, 3) ∧ decode cX9_finding 5 = .ok (.ldc 60, 2) ∧ decode cX9_finding 7 = .ok (.iload_n 1, 1) ∧ decode cX9_finding 8 = .ok (.isub, 1) ∧ decode cX9_finding 9 = .ok (.ireturn, 1) := by decide +kernel
theorem dX9_finding_0 : decode cX9_finding 0 = .ok (.aload_n 0, 1) := gdX9_finding_0.1
theorem dX9_finding_1 : decode cX9_finding 1 = .ok (.iload_n 1, 1) := gdX9_finding_0.2.1
theorem dX9_finding_2 : decode cX9_finding 2 = .ok (.putfield 57, 3) := gdX9_finding_0.2.2.1
theorem dX9_finding_5 : decode cX9_finding 5 = .ok (.ldc 60, 2) := gdX9_finding_0.2.2.2.1
theorem dX9_finding_7 : decode cX9_finding 7 = .ok (.iload_n 1, 1) := gdX9_finding_0.2.2.2.2.1
theorem dX9_finding_8 : decode cX9_finding 8 = .ok (.isub, 1) := gdX9_finding_0.2.2.2.2.2.1
theorem dX9_finding_9 : decode cX9_finding 9 = .ok (.ireturn, 1) := gdX9_finding_0.2.2.2.2.2.2
set_option maxRecDepth 20000 in
theorem gdX9_isFigure_0 : decode cX9_isFigure 0 = .ok (.iload_n 0, 1) ∧ decode cX9_isFigure 1 = .ok (.bipush 48, 2) ∧ decode cX9_isFigure 3 = .ok (.if_icmp .lt 13, 3) ∧ decode cX9_isFigure 6 = .ok (.iload_n 0, 1) ∧ decode cX9_isFigure 7 = .ok (.bipush 57, 2) ∧ decode cX9_isFigure 9 = .ok (.if_icmp .gt 7, 3) ∧ decode cX9_isFigure 12 = .ok (.iconst 1, 1) ∧ decode cX9_isFigure 13 = .ok (.goto 4, 3) := by decide +kernel
theorem dX9_isFigure_0 : decode cX9_isFigure 0 = .ok (.iload_n 0, 1) := gdX9_isFigure_0.1
theorem dX9_isFigure_1 : decode cX9_isFigure 1 = .ok (.bipush 48, 2) := gdX9_isFigure_0.2.1
theorem dX9_isFigure_3 : decode cX9_isFigure 3 = .ok (.if_icmp .lt 13, 3) := gdX9_isFigure_0.2.2.1
theorem dX9_isFigure_6 : decode cX9_isFigure 6 = .ok (.iload_n 0, 1) := gdX9_isFigure_0.2.2.2.1
theorem dX9_isFigure_7 : decode cX9_isFigure 7 = .ok (.bipush 57, 2) := gdX9_isFigure_0.2.2.2.2.1
theorem dX9_isFigure_9 : decode cX9_isFigure 9 = .ok (.if_icmp .gt 7, 3) := gdX9_isFigure_0.2.2.2.2.2.1
theorem dX9_isFigure_12 : decode cX9_isFigure 12 = .ok (.iconst 1, 1) := gdX9_isFigure_0.2.2.2.2.2.2.1
theorem dX9_isFigure_13 : decode cX9_isFigure 13 = .ok (.goto 4, 3) := gdX9_isFigure_0.2.2.2.2.2.2.2
theorem dX9_isFigure_16 : decode cX9_isFigure 16 = .ok (.iconst 0, 1) := by decide +kernel
theorem dX9_isFigure_17 : decode cX9_isFigure 17 = .ok (.ireturn, 1) := by decide +kernel
set_option maxRecDepth 20000 in
theorem gdX9_isLetter_0 : decode cX9_isLetter 0 = .ok (.iload_n 0, 1) ∧ decode cX9_isLetter 1 = .ok (.bipush 97, 2) ∧ decode cX9_isLetter 3 = .ok (.if_icmp .lt 13, 3) ∧ decode cX9_isLetter 6 = .ok (.iload_n 0, 1) ∧ decode cX9_isLetter 7 = .ok (.bipush 122, 2) ∧ decode cX9_isLetter 9 = .ok (.if_icmp .gt 7, 3) ∧ decode cX9_isLetter 12 = .ok (.iconst 1, 1) ∧ decode cX9_isLetter 13 = .ok (.goto 4, 3) := by decide +kernel
theorem dX9_isLetter_0 : decode cX9_isLetter 0 = .ok (.iload_n 0, 1) := gdX9_isLetter_0.1
theorem dX9_isLetter_1 : decode cX9_isLetter 1 = .ok (.bipush 97, 2) := gdX9_isLetter_0.2.1
theorem dX9_isLetter_3 : decode cX9_isLetter 3 = .ok (.if_icmp .lt 13, 3) := gdX9_isLetter_0.2.2.1
theorem dX9_isLetter_6 : decode cX9_isLetter 6 = .ok (.iload_n 0, 1) := gdX9_isLetter_0.2.2.2.1
theorem dX9_isLetter_7 : decode cX9_isLetter 7 = .ok (.bipush 122, 2) := gdX9_isLetter_0.2.2.2.2.1
theorem dX9_isLetter_9 : decode cX9_isLetter 9 = .ok (.if_icmp .gt 7, 3) := gdX9_isLetter_0.2.2.2.2.2.1
theorem dX9_isLetter_12 : decode cX9_isLetter 12 = .ok (.iconst 1, 1) := gdX9_isLetter_0.2.2.2.2.2.2.1
theorem dX9_isLetter_13 : decode cX9_isLetter 13 = .ok (.goto 4, 3) := gdX9_isLetter_0.2.2.2.2.2.2.2
theorem dX9_isLetter_16 : decode cX9_isLetter 16 = .ok (.iconst 0, 1) := by decide +kernel
theorem dX9_isLetter_17 : decode cX9_isLetter 17 = .ok (.ireturn, 1) := by decide +kernel
set_option maxRecDepth 20000 in
theorem gdX9_isOf_0 : decode cX9_isOf 0 = .ok (.iload_n 1, 1) ∧ decode cX9_isOf 1 = .ok (.ifCond .eq 38, 3) ∧ decode cX9_isOf 4 = .ok (.iload_n 0, 1) ∧ decode cX9_isOf 5 = .ok (.iload_n 1, 1) ∧ decode cX9_isOf 6 = .ok (.if_icmp .eq 33, 3) ∧ decode cX9_isOf 9 = .ok (.iload_n 1, 1) ∧ decode cX9_isOf 10 = .ok (.iconst 3, 1) ∧ decode cX9_isOf 11 = .ok (.if_icmp .ne 8, 3) := by decide +kernel
theorem dX9_isOf_0 : decode cX9_isOf 0 = .ok (.iload_n 1, 1) := gdX9_isOf_0.1
theorem dX9_isOf_1 : decode cX9_isOf 1 = .ok (.ifCond .eq 38, 3) := gdX9_isOf_0.2.1
theorem dX9_isOf_4 : decode cX9_isOf 4 = .ok (.iload_n 0, 1) := gdX9_isOf_0.2.2.1
theorem dX9_isOf_5 : decode cX9_isOf 5 = .ok (.iload_n 1, 1) := gdX9_isOf_0.2.2.2.1
theorem dX9_isOf_6 : decode cX9_isOf 6 = .ok (.if_icmp .eq 33, 3) := gdX9_isOf_0.2.2.2.2.1
theorem dX9_isOf_9 : decode cX9_isOf 9 = .ok (.iload_n 1, 1) := gdX9_isOf_0.2.2.2.2.2.1
theorem dX9_isOf_10 : decode cX9_isOf 10 = .ok (.iconst 3, 1) := gdX9_isOf_0.2.2.2.2.2.2.1
theorem dX9_isOf_11 : decode cX9_isOf 11 = .ok (.if_icmp .ne 8, 3) := gdX9_isOf_0.2.2.2.2.2.2.2
set_option maxRecDepth 20000 in
theorem gdX9_isOf_14 : decode cX9_isOf 14 = .ok (.iload_n 0, 1) ∧ decode cX9_isOf 15 = .ok (.iconst 5, 1) ∧ decode cX9_isOf 16 = .ok (.if_icmp .eq 23, 3) ∧ decode cX9_isOf 19 = .ok (.iload_n 1, 1) ∧ decode cX9_isOf 20 = .ok (.iconst 2, 1) ∧ decode cX9_isOf 21 = .ok (.if_icmp .ne 22, 3) ∧ decode cX9_isOf 24 = .ok (.iload_n 0, 1) ∧ decode cX9_isOf 25 = .ok (.iconst 3, 1) := by decide +kernel
theorem dX9_isOf_14 : decode cX9_isOf 14 = .ok (.iload_n 0, 1) := gdX9_isOf_14.1
theorem dX9_isOf_15 : decode cX9_isOf 15 = .ok (.iconst 5, 1) := gdX9_isOf_14.2.1
theorem dX9_isOf_16 : decode cX9_isOf 16 = .ok (.if_icmp .eq 23, 3) := gdX9_isOf_14.2.2.1
theorem dX9_isOf_19 : decode cX9_isOf 19 = .ok (.iload_n 1, 1) := gdX9_isOf_14.2.2.2.1
theorem dX9_isOf_20 : decode cX9_isOf 20 = .ok (.iconst 2, 1) := gdX9_isOf_14.2.2.2.2.1
theorem dX9_isOf_21 : decode cX9_isOf 21 = .ok (.if_icmp .ne 22, 3) := gdX9_isOf_14.2.2.2.2.2.1
theorem dX9_isOf_24 : decode cX9_isOf 24 = .ok (.iload_n 0, 1) := gdX9_isOf_14.2.2.2.2.2.2.1
theorem dX9_isOf_25 : decode cX9_isOf 25 = .ok (.iconst 3, 1) := gdX9_isOf_14.2.2.2.2.2.2.2
set_option maxRecDepth 20000 in
theorem gdX9_isOf_26 : decode cX9_isOf 26 = .ok (.if_icmp .eq 13, 3) ∧ decode cX9_isOf 29 = .ok (.iload_n 0, 1) ∧ decode cX9_isOf 30 = .ok (.iconst 4, 1) ∧ decode cX9_isOf 31 = .ok (.if_icmp .eq 8, 3) ∧ decode cX9_isOf 34 = .ok (.iload_n 0, 1) ∧ decode cX9_isOf 35 = .ok (.iconst 5, 1) ∧ decode cX9_isOf 36 = .ok (.if_icmp .ne 7, 3) ∧ decode cX9_isOf 39 = .ok (.iconst 1, 1) := by decide +kernel
theorem dX9_isOf_26 : decode cX9_isOf 26 = .ok (.if_icmp .eq 13, 3) := gdX9_isOf_26.1
theorem dX9_isOf_29 : decode cX9_isOf 29 = .ok (.iload_n 0, 1) := gdX9_isOf_26.2.1
theorem dX9_isOf_30 : decode cX9_isOf 30 = .ok (.iconst 4, 1) := gdX9_isOf_26.2.2.1
theorem dX9_isOf_31 : decode cX9_isOf 31 = .ok (.if_icmp .eq 8, 3) := gdX9_isOf_26.2.2.2.1
theorem dX9_isOf_34 : decode cX9_isOf 34 = .ok (.iload_n 0, 1) := gdX9_isOf_26.2.2.2.2.1
theorem dX9_isOf_35 : decode cX9_isOf 35 = .ok (.iconst 5, 1) := gdX9_isOf_26.2.2.2.2.2.1
theorem dX9_isOf_36 : decode cX9_isOf 36 = .ok (.if_icmp .ne 7, 3) := gdX9_isOf_26.2.2.2.2.2.2.1
theorem dX9_isOf_39 : decode cX9_isOf 39 = .ok (.iconst 1, 1) := gdX9_isOf_26.2.2.2.2.2.2.2
set_option maxRecDepth 20000 in
theorem gdX9_isOf_40 : decode cX9_isOf 40 = .ok (.goto 4, 3) ∧ decode cX9_isOf 43 = .ok (.iconst 0, 1) ∧ decode cX9_isOf 44 = .ok (.ireturn, 1) := by decide +kernel
theorem dX9_isOf_40 : decode cX9_isOf 40 = .ok (.goto 4, 3) := gdX9_isOf_40.1
theorem dX9_isOf_43 : decode cX9_isOf 43 = .ok (.iconst 0, 1) := gdX9_isOf_40.2.1
theorem dX9_isOf_44 : decode cX9_isOf 44 = .ok (.ireturn, 1) := gdX9_isOf_40.2.2
set_option maxRecDepth 20000 in
theorem gdX9_south_0 : decode cX9_south 0 = .ok (.iload_n 0, 1) ∧ decode cX9_south 1 = .ok (.iconst 2, 1) ∧ decode cX9_south 2 = .ok (.if_icmp .eq 9, 3) ∧ decode cX9_south 5 = .ok (.iload_n 0, 1) ∧ decode cX9_south 6 = .ok (.bipush 6, 2) ∧ decode cX9_south 8 = .ok (.if_icmp .ne 7, 3) ∧ decode cX9_south 11 = .ok (.iconst 0, 1) ∧ decode cX9_south 12 = .ok (.goto 19, 3) := by decide +kernel
theorem dX9_south_0 : decode cX9_south 0 = .ok (.iload_n 0, 1) := gdX9_south_0.1
theorem dX9_south_1 : decode cX9_south 1 = .ok (.iconst 2, 1) := gdX9_south_0.2.1
theorem dX9_south_2 : decode cX9_south 2 = .ok (.if_icmp .eq 9, 3) := gdX9_south_0.2.2.1
theorem dX9_south_5 : decode cX9_south 5 = .ok (.iload_n 0, 1) := gdX9_south_0.2.2.2.1
theorem dX9_south_6 : decode cX9_south 6 = .ok (.bipush 6, 2) := gdX9_south_0.2.2.2.2.1
theorem dX9_south_8 : decode cX9_south 8 = .ok (.if_icmp .ne 7, 3) := gdX9_south_0.2.2.2.2.2.1
theorem dX9_south_11 : decode cX9_south 11 = .ok (.iconst 0, 1) := gdX9_south_0.2.2.2.2.2.2.1
theorem dX9_south_12 : decode cX9_south 12 = .ok (.goto 19, 3) := gdX9_south_0.2.2.2.2.2.2.2
set_option maxRecDepth 20000 in
theorem gdX9_south_15 : decode cX9_south 15 = .ok (.iload_n 0, 1) ∧ decode cX9_south 16 = .ok (.iconst 2, 1) ∧ decode cX9_south 17 = .ok (.if_icmp .le 13, 3) ∧ decode cX9_south 20 = .ok (.iload_n 0, 1) ∧ decode cX9_south 21 = .ok (.bipush 6, 2) ∧ decode cX9_south 23 = .ok (.if_icmp .ge 7, 3) ∧ decode cX9_south 26 = .ok (.iconst 1, 1) ∧ decode cX9_south 27 = .ok (.goto 4, 3) := by decide +kernel
theorem dX9_south_15 : decode cX9_south 15 = .ok (.iload_n 0, 1) := gdX9_south_15.1
theorem dX9_south_16 : decode cX9_south 16 = .ok (.iconst 2, 1) := gdX9_south_15.2.1
theorem dX9_south_17 : decode cX9_south 17 = .ok (.if_icmp .le 13, 3) := gdX9_south_15.2.2.1
theorem dX9_south_20 : decode cX9_south 20 = .ok (.iload_n 0, 1) := gdX9_south_15.2.2.2.1
theorem dX9_south_21 : decode cX9_south 21 = .ok (.bipush 6, 2) := gdX9_south_15.2.2.2.2.1
theorem dX9_south_23 : decode cX9_south 23 = .ok (.if_icmp .ge 7, 3) := gdX9_south_15.2.2.2.2.2.1
theorem dX9_south_26 : decode cX9_south 26 = .ok (.iconst 1, 1) := gdX9_south_15.2.2.2.2.2.2.1
theorem dX9_south_27 : decode cX9_south 27 = .ok (.goto 4, 3) := gdX9_south_15.2.2.2.2.2.2.2
theorem dX9_south_30 : decode cX9_south 30 = .ok (.iconst (-1), 1) := by decide +kernel
theorem dX9_south_31 : decode cX9_south 31 = .ok (.ireturn, 1) := by decide +kernel
theorem jX9_byteAt_X9 : ∀ w ∈ u_ws RX9 TX9 29, w ∈ wsX9_byteAt := fun w h => List.mem_cons_of_mem _ (List.mem_append_right _ h)
theorem jX9_finding_X9 : ∀ w ∈ u_ws RX9 TX9 29, w ∈ wsX9_finding := fun w h => List.mem_cons_of_mem _ (List.mem_append_right _ h)
set_option maxHeartbeats 4000000 in
set_option maxRecDepth 100000 in
theorem s_X9_isLetter (l : Launch) (D : va_G) (cI cZ cC cS : ClassId) (sq : Nat → Nat) (sz : Nat) (ch_ : Int32) : mI l yX9_isLetter wsX9_isLetter 0 0 D (tyW cI cZ cC cS) sq [] sz [.int ch_] (fun r w => ((97 ≤ ch_.toInt ∧ ch_.toInt ≤ 122) ∧ r = 1 ∧ w = []) ∨ ((¬ (97 ≤ ch_.toInt ∧ ch_.toInt ≤ 122)) ∧ r = 0 ∧ w = [])) := by
  refine b_metI (cc := cX9_isLetter) (maxL := 1) (ret := (some .boolean)) (by decide) rfl (Nat.le_of_ble_eq_true rfl) ?_
  intro p e s m below meth c ls A H X hsz hP hK hT hD hA hS hl
  have S : CallFix p m c cX9_isLetter 1 s ([.int ch_] : List Value).toArray wsX9_isLetter RX9 := X.1
  have hl : lv_has ls 1 [(0, .int ch_)] := hl
  refine lv_iload_n S.1 S.2.1 dX9_isLetter_0 rfl (lv_at hl 0 rfl) ?_
  refine lv_bipush (v := (97)) S.1 S.2.1 dX9_isLetter_1 (by decide) ?_
  refine lv_icmp_lt (tgt := 16) S.1 S.2.1 dX9_isLetter_3 (by decide) (fun c_1 => ?_) (fun c_1 => ?_)
  · rw [lt2 (a := ch_) (b := 97) (A := ch_.toInt) (B := 97) rfl rfl] at c_1
    refine lv_iconst (v := (0)) S.1 S.2.1 dX9_isLetter_16 (by decide) ?_
    exact b_zret S.1 S.2.1 X.2.1 X.2.2.1 rfl hP hD hS (Or.inr (⟨(by first | with_reducible assumption | decide | (and_intros <;> first | with_reducible assumption | (intros; refine Int.le_antisymm ?_ ?_ <;> omega) | omega) | assumption | (rw [show Int32.toInt 0 = 0 from rfl]; omega)), rfl, rfl⟩)) dX9_isLetter_17
  · rw [lt2 (a := ch_) (b := 97) (A := ch_.toInt) (B := 97) rfl rfl] at c_1
    refine lv_iload_n S.1 S.2.1 dX9_isLetter_6 rfl (lv_at hl 0 rfl) ?_
    refine lv_bipush (v := (122)) S.1 S.2.1 dX9_isLetter_7 (by decide) ?_
    refine lv_icmp_gt (tgt := 16) S.1 S.2.1 dX9_isLetter_9 (by decide) (fun c_2 => ?_) (fun c_2 => ?_)
    · rw [lt2 (a := 122) (b := ch_) (A := 122) (B := ch_.toInt) rfl rfl] at c_2
      refine lv_iconst (v := (0)) S.1 S.2.1 dX9_isLetter_16 (by decide) ?_
      exact b_zret S.1 S.2.1 X.2.1 X.2.2.1 rfl hP hD hS (Or.inr (⟨(by first | with_reducible assumption | decide | (and_intros <;> first | with_reducible assumption | (intros; refine Int.le_antisymm ?_ ?_ <;> omega) | omega) | assumption | (rw [show Int32.toInt 0 = 0 from rfl]; omega)), rfl, rfl⟩)) dX9_isLetter_17
    · rw [lt2 (a := 122) (b := ch_) (A := 122) (B := ch_.toInt) rfl rfl] at c_2
      refine lv_iconst (v := (1)) S.1 S.2.1 dX9_isLetter_12 (by decide) ?_
      refine lv_goto (tgt := 17) S.1 S.2.1 dX9_isLetter_13 (by decide) ?_
      exact b_zret S.1 S.2.1 X.2.1 X.2.2.1 rfl hP hD hS (Or.inl ⟨(by first | with_reducible assumption | decide | (and_intros <;> first | with_reducible assumption | (intros; refine Int.le_antisymm ?_ ?_ <;> omega) | omega) | assumption | (rw [show Int32.toInt 0 = 0 from rfl]; omega)), rfl, rfl⟩) dX9_isLetter_17
set_option maxHeartbeats 4000000 in
set_option maxRecDepth 100000 in
theorem s_X9_isFigure (l : Launch) (D : va_G) (cI cZ cC cS : ClassId) (sq : Nat → Nat) (sz : Nat) (ch_ : Int32) : mI l yX9_isFigure wsX9_isFigure 0 0 D (tyW cI cZ cC cS) sq [] sz [.int ch_] (fun r w => ((48 ≤ ch_.toInt ∧ ch_.toInt ≤ 57) ∧ r = 1 ∧ w = []) ∨ ((¬ (48 ≤ ch_.toInt ∧ ch_.toInt ≤ 57)) ∧ r = 0 ∧ w = [])) := by
  refine b_metI (cc := cX9_isFigure) (maxL := 1) (ret := (some .boolean)) (by decide) rfl (Nat.le_of_ble_eq_true rfl) ?_
  intro p e s m below meth c ls A H X hsz hP hK hT hD hA hS hl
  have S : CallFix p m c cX9_isFigure 1 s ([.int ch_] : List Value).toArray wsX9_isFigure RX9 := X.1
  have hl : lv_has ls 1 [(0, .int ch_)] := hl
  refine lv_iload_n S.1 S.2.1 dX9_isFigure_0 rfl (lv_at hl 0 rfl) ?_
  refine lv_bipush (v := (48)) S.1 S.2.1 dX9_isFigure_1 (by decide) ?_
  refine lv_icmp_lt (tgt := 16) S.1 S.2.1 dX9_isFigure_3 (by decide) (fun c_1 => ?_) (fun c_1 => ?_)
  · rw [lt2 (a := ch_) (b := 48) (A := ch_.toInt) (B := 48) rfl rfl] at c_1
    refine lv_iconst (v := (0)) S.1 S.2.1 dX9_isFigure_16 (by decide) ?_
    exact b_zret S.1 S.2.1 X.2.1 X.2.2.1 rfl hP hD hS (Or.inr (⟨(by first | with_reducible assumption | decide | (and_intros <;> first | with_reducible assumption | (intros; refine Int.le_antisymm ?_ ?_ <;> omega) | omega) | assumption | (rw [show Int32.toInt 0 = 0 from rfl]; omega)), rfl, rfl⟩)) dX9_isFigure_17
  · rw [lt2 (a := ch_) (b := 48) (A := ch_.toInt) (B := 48) rfl rfl] at c_1
    refine lv_iload_n S.1 S.2.1 dX9_isFigure_6 rfl (lv_at hl 0 rfl) ?_
    refine lv_bipush (v := (57)) S.1 S.2.1 dX9_isFigure_7 (by decide) ?_
    refine lv_icmp_gt (tgt := 16) S.1 S.2.1 dX9_isFigure_9 (by decide) (fun c_2 => ?_) (fun c_2 => ?_)
    · rw [lt2 (a := 57) (b := ch_) (A := 57) (B := ch_.toInt) rfl rfl] at c_2
      refine lv_iconst (v := (0)) S.1 S.2.1 dX9_isFigure_16 (by decide) ?_
      exact b_zret S.1 S.2.1 X.2.1 X.2.2.1 rfl hP hD hS (Or.inr (⟨(by first | with_reducible assumption | decide | (and_intros <;> first | with_reducible assumption | (intros; refine Int.le_antisymm ?_ ?_ <;> omega) | omega) | assumption | (rw [show Int32.toInt 0 = 0 from rfl]; omega)), rfl, rfl⟩)) dX9_isFigure_17
    · rw [lt2 (a := 57) (b := ch_) (A := 57) (B := ch_.toInt) rfl rfl] at c_2
      refine lv_iconst (v := (1)) S.1 S.2.1 dX9_isFigure_12 (by decide) ?_
      refine lv_goto (tgt := 17) S.1 S.2.1 dX9_isFigure_13 (by decide) ?_
      exact b_zret S.1 S.2.1 X.2.1 X.2.2.1 rfl hP hD hS (Or.inl ⟨(by first | with_reducible assumption | decide | (and_intros <;> first | with_reducible assumption | (intros; refine Int.le_antisymm ?_ ?_ <;> omega) | omega) | assumption | (rw [show Int32.toInt 0 = 0 from rfl]; omega)), rfl, rfl⟩) dX9_isFigure_17
set_option maxHeartbeats 4000000 in
set_option maxRecDepth 100000 in
theorem s_X9_east (l : Launch) (D : va_G) (cI cZ cC cS : ClassId) (sq : Nat → Nat) (sz : Nat) (wy : Int32) : mI l yX9_east wsX9_east 0 0 D (tyW cI cZ cC cS) sq [] sz [.int wy] (fun r w => ((wy.toInt = 0 ∨ wy.toInt = 4) ∧ (eE wy.toInt = 0) ∧ r = 0 ∧ w = []) ∨ ((wy.toInt < 4 ∧ ¬ wy.toInt = 0) ∧ (eE wy.toInt = 1) ∧ r = 1 ∧ w = []) ∨ ((4 < wy.toInt) ∧ (eE wy.toInt = -1) ∧ r = -1 ∧ w = [])) := by
  refine b_metI (cc := cX9_east) (maxL := 1) (ret := (some .int)) (by decide) rfl (Nat.le_of_ble_eq_true rfl) ?_
  intro p e s m below meth c ls A H X hsz hP hK hT hD hA hS hl
  have S : CallFix p m c cX9_east 1 s ([.int wy] : List Value).toArray wsX9_east RX9 := X.1
  have hl : lv_has ls 1 [(0, .int wy)] := hl
  refine lv_iload_n S.1 S.2.1 dX9_east_0 rfl (lv_at hl 0 rfl) ?_
  refine lv_if_eq (tgt := 9) S.1 S.2.1 dX9_east_1 (by decide) (fun c_1 => ?_) (fun c_1 => ?_)
  · rw [eq2 (a := wy) (b := 0) (A := wy.toInt) (B := 0) rfl rfl] at c_1
    refine lv_iconst (v := (0)) S.1 S.2.1 dX9_east_9 (by decide) ?_
    refine lv_goto (tgt := 23) S.1 S.2.1 dX9_east_10 (by decide) ?_
    exact b_iret S.1 S.2.1 X.2.1 X.2.2.1 hP hD hS (Or.inl ⟨(by first | with_reducible assumption | decide | (and_intros <;> first | with_reducible assumption | (intros; refine Int.le_antisymm ?_ ?_ <;> omega) | omega) | assumption | (rw [show Int32.toInt 0 = 0 from rfl]; omega)), (by unfold eE; rw [if_pos (by first | (and_intros <;> first | with_reducible assumption | (refine Int.le_antisymm ?_ ?_ <;> omega) | omega) | omega)]), rfl, rfl⟩) dX9_east_23
  · rw [eq2 (a := wy) (b := 0) (A := wy.toInt) (B := 0) rfl rfl] at c_1
    refine lv_iload_n S.1 S.2.1 dX9_east_4 rfl (lv_at hl 0 rfl) ?_
    refine lv_iconst (v := (4)) S.1 S.2.1 dX9_east_5 (by decide) ?_
    refine lv_icmp_ne (tgt := 13) S.1 S.2.1 dX9_east_6 (by decide) (fun c_2 => ?_) (fun c_2 => ?_)
    · rw [eq2 (a := wy) (b := 4) (A := wy.toInt) (B := 4) rfl rfl] at c_2
      refine lv_iload_n S.1 S.2.1 dX9_east_13 rfl (lv_at hl 0 rfl) ?_
      refine lv_iconst (v := (4)) S.1 S.2.1 dX9_east_14 (by decide) ?_
      refine lv_icmp_ge (tgt := 22) S.1 S.2.1 dX9_east_15 (by decide) (fun c_3 => ?_) (fun c_3 => ?_)
      · rw [le2 (a := 4) (b := wy) (A := 4) (B := wy.toInt) rfl rfl] at c_3
        refine lv_iconst (v := (-1)) S.1 S.2.1 dX9_east_22 (by decide) ?_
        exact b_iret S.1 S.2.1 X.2.1 X.2.2.1 hP hD hS (Or.inr (Or.inr (⟨(by first | with_reducible assumption | decide | (and_intros <;> first | with_reducible assumption | (intros; refine Int.le_antisymm ?_ ?_ <;> omega) | omega) | assumption | (rw [show Int32.toInt 0 = 0 from rfl]; omega)), (by unfold eE; rw [if_neg (by first | (and_intros <;> first | with_reducible assumption | (refine Int.le_antisymm ?_ ?_ <;> omega) | omega) | omega), if_neg (by first | (and_intros <;> first | with_reducible assumption | (refine Int.le_antisymm ?_ ?_ <;> omega) | omega) | omega)]), rfl, rfl⟩))) dX9_east_23
      · rw [le2 (a := 4) (b := wy) (A := 4) (B := wy.toInt) rfl rfl] at c_3
        refine lv_iconst (v := (1)) S.1 S.2.1 dX9_east_18 (by decide) ?_
        refine lv_goto (tgt := 23) S.1 S.2.1 dX9_east_19 (by decide) ?_
        exact b_iret S.1 S.2.1 X.2.1 X.2.2.1 hP hD hS (Or.inr (Or.inl ⟨(by first | with_reducible assumption | decide | (and_intros <;> first | with_reducible assumption | (intros; refine Int.le_antisymm ?_ ?_ <;> omega) | omega) | assumption | (rw [show Int32.toInt 0 = 0 from rfl]; omega)), (by unfold eE; rw [if_neg (by first | (and_intros <;> first | with_reducible assumption | (refine Int.le_antisymm ?_ ?_ <;> omega) | omega) | omega), if_pos (by first | (and_intros <;> first | with_reducible assumption | (refine Int.le_antisymm ?_ ?_ <;> omega) | omega) | omega)]), rfl, rfl⟩)) dX9_east_23
    · rw [eq2 (a := wy) (b := 4) (A := wy.toInt) (B := 4) rfl rfl] at c_2
      refine lv_iconst (v := (0)) S.1 S.2.1 dX9_east_9 (by decide) ?_
      refine lv_goto (tgt := 23) S.1 S.2.1 dX9_east_10 (by decide) ?_
      exact b_iret S.1 S.2.1 X.2.1 X.2.2.1 hP hD hS (Or.inl ⟨(by first | with_reducible assumption | decide | (and_intros <;> first | with_reducible assumption | (intros; refine Int.le_antisymm ?_ ?_ <;> omega) | omega) | assumption | (rw [show Int32.toInt 0 = 0 from rfl]; omega)), (by unfold eE; rw [if_pos (by first | (and_intros <;> first | with_reducible assumption | (refine Int.le_antisymm ?_ ?_ <;> omega) | omega) | omega)]), rfl, rfl⟩) dX9_east_23
set_option maxHeartbeats 4000000 in
set_option maxRecDepth 100000 in
theorem s_X9_south (l : Launch) (D : va_G) (cI cZ cC cS : ClassId) (sq : Nat → Nat) (sz : Nat) (wy : Int32) : mI l yX9_south wsX9_south 0 0 D (tyW cI cZ cC cS) sq [] sz [.int wy] (fun r w => ((wy.toInt = 2 ∨ wy.toInt = 6) ∧ (eS wy.toInt = 0) ∧ r = 0 ∧ w = []) ∨ ((2 < wy.toInt ∧ wy.toInt < 6) ∧ (eS wy.toInt = 1) ∧ r = 1 ∧ w = []) ∨ ((wy.toInt < 2 ∨ 6 < wy.toInt) ∧ (eS wy.toInt = -1) ∧ r = -1 ∧ w = [])) := by
  refine b_metI (cc := cX9_south) (maxL := 1) (ret := (some .int)) (by decide) rfl (Nat.le_of_ble_eq_true rfl) ?_
  intro p e s m below meth c ls A H X hsz hP hK hT hD hA hS hl
  have S : CallFix p m c cX9_south 1 s ([.int wy] : List Value).toArray wsX9_south RX9 := X.1
  have hl : lv_has ls 1 [(0, .int wy)] := hl
  refine lv_iload_n S.1 S.2.1 dX9_south_0 rfl (lv_at hl 0 rfl) ?_
  refine lv_iconst (v := (2)) S.1 S.2.1 dX9_south_1 (by decide) ?_
  refine lv_icmp_eq (tgt := 11) S.1 S.2.1 dX9_south_2 (by decide) (fun c_1 => ?_) (fun c_1 => ?_)
  · rw [eq2 (a := wy) (b := 2) (A := wy.toInt) (B := 2) rfl rfl] at c_1
    refine lv_iconst (v := (0)) S.1 S.2.1 dX9_south_11 (by decide) ?_
    refine lv_goto (tgt := 31) S.1 S.2.1 dX9_south_12 (by decide) ?_
    exact b_iret S.1 S.2.1 X.2.1 X.2.2.1 hP hD hS (Or.inl ⟨(by first | with_reducible assumption | decide | (and_intros <;> first | with_reducible assumption | (intros; refine Int.le_antisymm ?_ ?_ <;> omega) | omega) | assumption | (rw [show Int32.toInt 0 = 0 from rfl]; omega)), (by unfold eS; rw [if_pos (by first | (and_intros <;> first | with_reducible assumption | (refine Int.le_antisymm ?_ ?_ <;> omega) | omega) | omega)]), rfl, rfl⟩) dX9_south_31
  · rw [eq2 (a := wy) (b := 2) (A := wy.toInt) (B := 2) rfl rfl] at c_1
    refine lv_iload_n S.1 S.2.1 dX9_south_5 rfl (lv_at hl 0 rfl) ?_
    refine lv_bipush (v := (6)) S.1 S.2.1 dX9_south_6 (by decide) ?_
    refine lv_icmp_ne (tgt := 15) S.1 S.2.1 dX9_south_8 (by decide) (fun c_2 => ?_) (fun c_2 => ?_)
    · rw [eq2 (a := wy) (b := 6) (A := wy.toInt) (B := 6) rfl rfl] at c_2
      refine lv_iload_n S.1 S.2.1 dX9_south_15 rfl (lv_at hl 0 rfl) ?_
      refine lv_iconst (v := (2)) S.1 S.2.1 dX9_south_16 (by decide) ?_
      refine lv_icmp_le (tgt := 30) S.1 S.2.1 dX9_south_17 (by decide) (fun c_3 => ?_) (fun c_3 => ?_)
      · rw [le2 (a := wy) (b := 2) (A := wy.toInt) (B := 2) rfl rfl] at c_3
        refine lv_iconst (v := (-1)) S.1 S.2.1 dX9_south_30 (by decide) ?_
        exact b_iret S.1 S.2.1 X.2.1 X.2.2.1 hP hD hS (Or.inr (Or.inr (⟨(by first | with_reducible assumption | decide | (and_intros <;> first | with_reducible assumption | (intros; refine Int.le_antisymm ?_ ?_ <;> omega) | omega) | assumption | (rw [show Int32.toInt 0 = 0 from rfl]; omega)), (by unfold eS; rw [if_neg (by first | (and_intros <;> first | with_reducible assumption | (refine Int.le_antisymm ?_ ?_ <;> omega) | omega) | omega), if_neg (by first | (and_intros <;> first | with_reducible assumption | (refine Int.le_antisymm ?_ ?_ <;> omega) | omega) | omega)]), rfl, rfl⟩))) dX9_south_31
      · rw [le2 (a := wy) (b := 2) (A := wy.toInt) (B := 2) rfl rfl] at c_3
        refine lv_iload_n S.1 S.2.1 dX9_south_20 rfl (lv_at hl 0 rfl) ?_
        refine lv_bipush (v := (6)) S.1 S.2.1 dX9_south_21 (by decide) ?_
        refine lv_icmp_ge (tgt := 30) S.1 S.2.1 dX9_south_23 (by decide) (fun c_4 => ?_) (fun c_4 => ?_)
        · rw [le2 (a := 6) (b := wy) (A := 6) (B := wy.toInt) rfl rfl] at c_4
          refine lv_iconst (v := (-1)) S.1 S.2.1 dX9_south_30 (by decide) ?_
          exact b_iret S.1 S.2.1 X.2.1 X.2.2.1 hP hD hS (Or.inr (Or.inr (⟨(by first | with_reducible assumption | decide | (and_intros <;> first | with_reducible assumption | (intros; refine Int.le_antisymm ?_ ?_ <;> omega) | omega) | assumption | (rw [show Int32.toInt 0 = 0 from rfl]; omega)), (by unfold eS; rw [if_neg (by first | (and_intros <;> first | with_reducible assumption | (refine Int.le_antisymm ?_ ?_ <;> omega) | omega) | omega), if_neg (by first | (and_intros <;> first | with_reducible assumption | (refine Int.le_antisymm ?_ ?_ <;> omega) | omega) | omega)]), rfl, rfl⟩))) dX9_south_31
        · rw [le2 (a := 6) (b := wy) (A := 6) (B := wy.toInt) rfl rfl] at c_4
          refine lv_iconst (v := (1)) S.1 S.2.1 dX9_south_26 (by decide) ?_
          refine lv_goto (tgt := 31) S.1 S.2.1 dX9_south_27 (by decide) ?_
          exact b_iret S.1 S.2.1 X.2.1 X.2.2.1 hP hD hS (Or.inr (Or.inl ⟨(by first | with_reducible assumption | decide | (and_intros <;> first | with_reducible assumption | (intros; refine Int.le_antisymm ?_ ?_ <;> omega) | omega) | assumption | (rw [show Int32.toInt 0 = 0 from rfl]; omega)), (by unfold eS; rw [if_neg (by first | (and_intros <;> first | with_reducible assumption | (refine Int.le_antisymm ?_ ?_ <;> omega) | omega) | omega), if_pos (by first | (and_intros <;> first | with_reducible assumption | (refine Int.le_antisymm ?_ ?_ <;> omega) | omega) | omega)]), rfl, rfl⟩)) dX9_south_31
    · rw [eq2 (a := wy) (b := 6) (A := wy.toInt) (B := 6) rfl rfl] at c_2
      refine lv_iconst (v := (0)) S.1 S.2.1 dX9_south_11 (by decide) ?_
      refine lv_goto (tgt := 31) S.1 S.2.1 dX9_south_12 (by decide) ?_
      exact b_iret S.1 S.2.1 X.2.1 X.2.2.1 hP hD hS (Or.inl ⟨(by first | with_reducible assumption | decide | (and_intros <;> first | with_reducible assumption | (intros; refine Int.le_antisymm ?_ ?_ <;> omega) | omega) | assumption | (rw [show Int32.toInt 0 = 0 from rfl]; omega)), (by unfold eS; rw [if_pos (by first | (and_intros <;> first | with_reducible assumption | (refine Int.le_antisymm ?_ ?_ <;> omega) | omega) | omega)]), rfl, rfl⟩) dX9_south_31
set_option maxHeartbeats 4000000 in
set_option maxRecDepth 100000 in
theorem s_X9_cellOf (l : Launch) (D : va_G) (cI cZ cC cS : ClassId) (sq : Nat → Nat) (sz : Nat) (ch_ : Int32) : mI l yX9_cellOf wsX9_cellOf 0 0 D (tyW cI cZ cC cS) sq [] sz [.int ch_] (fun r w => ((-3 ≤ r.toInt ∧ r.toInt ≤ 5) ∧ (clL ch_.toInt) ∧ (r.toInt = codC ch_.toInt - 3) ∧ w = []) ∨ ((¬ clL ch_.toInt) ∧ r = -1000000 ∧ w = [])) := by
  refine b_metI (cc := cX9_cellOf) (maxL := 1) (ret := (some .int)) (by decide) rfl (Nat.le_of_ble_eq_true rfl) ?_
  intro p e s m below meth c ls A H X hsz hP hK hT hD hA hS hl
  have S : CallFix p m c cX9_cellOf 1 s ([.int ch_] : List Value).toArray wsX9_cellOf RX9 := X.1
  have hl : lv_has ls 1 [(0, .int ch_)] := hl
  refine lv_iload_n S.1 S.2.1 dX9_cellOf_0 rfl (lv_at hl 0 rfl) ?_
  refine lv_bipush (v := (111)) S.1 S.2.1 dX9_cellOf_1 (by decide) ?_
  refine lv_icmp_ne (tgt := 11) S.1 S.2.1 dX9_cellOf_3 (by decide) (fun c_1 => ?_) (fun c_1 => ?_)
  · rw [eq2 (a := ch_) (b := 111) (A := ch_.toInt) (B := 111) rfl rfl] at c_1
    refine lv_iload_n S.1 S.2.1 dX9_cellOf_11 rfl (lv_at hl 0 rfl) ?_
    refine lv_bipush (v := (119)) S.1 S.2.1 dX9_cellOf_12 (by decide) ?_
    refine lv_icmp_ne (tgt := 22) S.1 S.2.1 dX9_cellOf_14 (by decide) (fun c_2 => ?_) (fun c_2 => ?_)
    · rw [eq2 (a := ch_) (b := 119) (A := ch_.toInt) (B := 119) rfl rfl] at c_2
      refine lv_iload_n S.1 S.2.1 dX9_cellOf_22 rfl (lv_at hl 0 rfl) ?_
      refine lv_bipush (v := (109)) S.1 S.2.1 dX9_cellOf_23 (by decide) ?_
      refine lv_icmp_ne (tgt := 32) S.1 S.2.1 dX9_cellOf_25 (by decide) (fun c_3 => ?_) (fun c_3 => ?_)
      · rw [eq2 (a := ch_) (b := 109) (A := ch_.toInt) (B := 109) rfl rfl] at c_3
        refine lv_iload_n S.1 S.2.1 dX9_cellOf_32 rfl (lv_at hl 0 rfl) ?_
        refine lv_bipush (v := (97)) S.1 S.2.1 dX9_cellOf_33 (by decide) ?_
        refine lv_icmp_lt (tgt := 51) S.1 S.2.1 dX9_cellOf_35 (by decide) (fun c_4 => ?_) (fun c_4 => ?_)
        · rw [lt2 (a := ch_) (b := 97) (A := ch_.toInt) (B := 97) rfl rfl] at c_4
          refine lv_ldc (v := (-1000000)) S.1 S.2.1 S.2.2.2.1 (S.2.2.2.2 (.constant RX9 89 (-1000000)) (by decide +kernel)) dX9_cellOf_51 ?_
          exact b_iret S.1 S.2.1 X.2.1 X.2.2.1 hP hD hS (Or.inr (⟨(by unfold clL; omega), rfl, rfl⟩)) dX9_cellOf_53
        · rw [lt2 (a := ch_) (b := 97) (A := ch_.toInt) (B := 97) rfl rfl] at c_4
          refine lv_iload_n S.1 S.2.1 dX9_cellOf_38 rfl (lv_at hl 0 rfl) ?_
          refine lv_bipush (v := (102)) S.1 S.2.1 dX9_cellOf_39 (by decide) ?_
          refine lv_icmp_gt (tgt := 51) S.1 S.2.1 dX9_cellOf_41 (by decide) (fun c_5 => ?_) (fun c_5 => ?_)
          · rw [lt2 (a := 102) (b := ch_) (A := 102) (B := ch_.toInt) rfl rfl] at c_5
            refine lv_ldc (v := (-1000000)) S.1 S.2.1 S.2.2.2.1 (S.2.2.2.2 (.constant RX9 89 (-1000000)) (by decide +kernel)) dX9_cellOf_51 ?_
            exact b_iret S.1 S.2.1 X.2.1 X.2.2.1 hP hD hS (Or.inr (⟨(by unfold clL; omega), rfl, rfl⟩)) dX9_cellOf_53
          · rw [lt2 (a := 102) (b := ch_) (A := 102) (B := ch_.toInt) rfl rfl] at c_5
            refine lv_iload_n S.1 S.2.1 dX9_cellOf_44 rfl (lv_at hl 0 rfl) ?_
            refine lv_bipush (v := (97)) S.1 S.2.1 dX9_cellOf_45 (by decide) ?_
            refine lv_isub S.1 S.2.1 dX9_cellOf_47 ?_
            refine lv_topi (fun x_6 ex_6 => ?_)
            have tx_6 : x_6.toInt = ch_.toInt - (97) := subI (A := ch_.toInt) (B := 97) ex_6 rfl rfl (by  omega) (by  omega)
            refine lv_goto (tgt := 53) S.1 S.2.1 dX9_cellOf_48 (by decide) ?_
            exact b_iret S.1 S.2.1 X.2.1 X.2.2.1 hP hD hS (Or.inl ⟨(by first | with_reducible assumption | decide | (and_intros <;> first | with_reducible assumption | (intros; refine Int.le_antisymm ?_ ?_ <;> omega) | omega) | assumption | (rw [show Int32.toInt 0 = 0 from rfl]; omega)), (by unfold clL; omega), (by have z := codC_c ch_.toInt; unfold clL at z; omega), rfl⟩) dX9_cellOf_53
      · rw [eq2 (a := ch_) (b := 109) (A := ch_.toInt) (B := 109) rfl rfl] at c_3
        refine lv_iconst (v := (-1)) S.1 S.2.1 dX9_cellOf_28 (by decide) ?_
        refine lv_goto (tgt := 53) S.1 S.2.1 dX9_cellOf_29 (by decide) ?_
        have lqm1 : Int32.toInt (-1) = -1 := by decide
        exact b_iret S.1 S.2.1 X.2.1 X.2.2.1 hP hD hS (Or.inl ⟨(by first | with_reducible assumption | decide | (and_intros <;> first | with_reducible assumption | (intros; refine Int.le_antisymm ?_ ?_ <;> omega) | omega) | assumption | (rw [show Int32.toInt 0 = 0 from rfl]; omega)), (by unfold clL; omega), (by have z := codC_c ch_.toInt; unfold clL at z; omega), rfl⟩) dX9_cellOf_53
    · rw [eq2 (a := ch_) (b := 119) (A := ch_.toInt) (B := 119) rfl rfl] at c_2
      refine lv_bipush (v := (-2)) S.1 S.2.1 dX9_cellOf_17 (by decide) ?_
      refine lv_goto (tgt := 53) S.1 S.2.1 dX9_cellOf_19 (by decide) ?_
      have lqm2 : Int32.toInt (-2) = -2 := by decide
      exact b_iret S.1 S.2.1 X.2.1 X.2.2.1 hP hD hS (Or.inl ⟨(by first | with_reducible assumption | decide | (and_intros <;> first | with_reducible assumption | (intros; refine Int.le_antisymm ?_ ?_ <;> omega) | omega) | assumption | (rw [show Int32.toInt 0 = 0 from rfl]; omega)), (by unfold clL; omega), (by have z := codC_c ch_.toInt; unfold clL at z; omega), rfl⟩) dX9_cellOf_53
  · rw [eq2 (a := ch_) (b := 111) (A := ch_.toInt) (B := 111) rfl rfl] at c_1
    refine lv_bipush (v := (-3)) S.1 S.2.1 dX9_cellOf_6 (by decide) ?_
    refine lv_goto (tgt := 53) S.1 S.2.1 dX9_cellOf_8 (by decide) ?_
    have lqm3 : Int32.toInt (-3) = -3 := by decide
    exact b_iret S.1 S.2.1 X.2.1 X.2.2.1 hP hD hS (Or.inl ⟨(by first | with_reducible assumption | decide | (and_intros <;> first | with_reducible assumption | (intros; refine Int.le_antisymm ?_ ?_ <;> omega) | omega) | assumption | (rw [show Int32.toInt 0 = 0 from rfl]; omega)), (by unfold clL; omega), (by have z := codC_c ch_.toInt; unfold clL at z; omega), rfl⟩) dX9_cellOf_53
set_option maxHeartbeats 4000000 in
set_option maxRecDepth 100000 in
theorem s_X9_isOf (l : Launch) (D : va_G) (cI cZ cC cS : ClassId) (sq : Nat → Nat) (sz : Nat) (a : Int32) (b : Int32) : mI l yX9_isOf wsX9_isOf 0 0 D (tyW cI cZ cC cS) sq [] sz [.int a, .int b] (fun r w => (r = 1 ∧ w = []) ∨ (r = 0 ∧ w = [])) := by
  refine b_metI (cc := cX9_isOf) (maxL := 2) (ret := (some .boolean)) (by decide) rfl (Nat.le_of_ble_eq_true rfl) ?_
  intro p e s m below meth c ls A H X hsz hP hK hT hD hA hS hl
  have S : CallFix p m c cX9_isOf 2 s ([.int a, .int b] : List Value).toArray wsX9_isOf RX9 := X.1
  have hl : lv_has ls 2 [(0, .int a), (1, .int b)] := hl
  refine lv_iload_n S.1 S.2.1 dX9_isOf_0 rfl (lv_at hl 1 rfl) ?_
  refine lv_if_eq (tgt := 39) S.1 S.2.1 dX9_isOf_1 (by decide) (fun c_1 => ?_) (fun c_1 => ?_)
  · rw [eq2 (a := b) (b := 0) (A := b.toInt) (B := 0) rfl rfl] at c_1
    refine lv_iconst (v := (1)) S.1 S.2.1 dX9_isOf_39 (by decide) ?_
    refine lv_goto (tgt := 44) S.1 S.2.1 dX9_isOf_40 (by decide) ?_
    exact b_zret S.1 S.2.1 X.2.1 X.2.2.1 rfl hP hD hS (Or.inl ⟨rfl, rfl⟩) dX9_isOf_44
  · rw [eq2 (a := b) (b := 0) (A := b.toInt) (B := 0) rfl rfl] at c_1
    refine lv_iload_n S.1 S.2.1 dX9_isOf_4 rfl (lv_at hl 0 rfl) ?_
    refine lv_iload_n S.1 S.2.1 dX9_isOf_5 rfl (lv_at hl 1 rfl) ?_
    refine lv_icmp_eq (tgt := 39) S.1 S.2.1 dX9_isOf_6 (by decide) (fun c_2 => ?_) (fun c_2 => ?_)
    · rw [eq2 (a := a) (b := b) (A := a.toInt) (B := b.toInt) rfl rfl] at c_2
      refine lv_iconst (v := (1)) S.1 S.2.1 dX9_isOf_39 (by decide) ?_
      refine lv_goto (tgt := 44) S.1 S.2.1 dX9_isOf_40 (by decide) ?_
      exact b_zret S.1 S.2.1 X.2.1 X.2.2.1 rfl hP hD hS (Or.inl ⟨rfl, rfl⟩) dX9_isOf_44
    · rw [eq2 (a := a) (b := b) (A := a.toInt) (B := b.toInt) rfl rfl] at c_2
      refine lv_iload_n S.1 S.2.1 dX9_isOf_9 rfl (lv_at hl 1 rfl) ?_
      refine lv_iconst (v := (3)) S.1 S.2.1 dX9_isOf_10 (by decide) ?_
      refine lv_icmp_ne (tgt := 19) S.1 S.2.1 dX9_isOf_11 (by decide) (fun c_3 => ?_) (fun c_3 => ?_)
      · rw [eq2 (a := b) (b := 3) (A := b.toInt) (B := 3) rfl rfl] at c_3
        refine lv_iload_n S.1 S.2.1 dX9_isOf_19 rfl (lv_at hl 1 rfl) ?_
        refine lv_iconst (v := (2)) S.1 S.2.1 dX9_isOf_20 (by decide) ?_
        refine lv_icmp_ne (tgt := 43) S.1 S.2.1 dX9_isOf_21 (by decide) (fun c_4 => ?_) (fun c_4 => ?_)
        · rw [eq2 (a := b) (b := 2) (A := b.toInt) (B := 2) rfl rfl] at c_4
          refine lv_iconst (v := (0)) S.1 S.2.1 dX9_isOf_43 (by decide) ?_
          exact b_zret S.1 S.2.1 X.2.1 X.2.2.1 rfl hP hD hS (Or.inr (⟨rfl, rfl⟩)) dX9_isOf_44
        · rw [eq2 (a := b) (b := 2) (A := b.toInt) (B := 2) rfl rfl] at c_4
          refine lv_iload_n S.1 S.2.1 dX9_isOf_24 rfl (lv_at hl 0 rfl) ?_
          refine lv_iconst (v := (3)) S.1 S.2.1 dX9_isOf_25 (by decide) ?_
          refine lv_icmp_eq (tgt := 39) S.1 S.2.1 dX9_isOf_26 (by decide) (fun c_5 => ?_) (fun c_5 => ?_)
          · rw [eq2 (a := a) (b := 3) (A := a.toInt) (B := 3) rfl rfl] at c_5
            refine lv_iconst (v := (1)) S.1 S.2.1 dX9_isOf_39 (by decide) ?_
            refine lv_goto (tgt := 44) S.1 S.2.1 dX9_isOf_40 (by decide) ?_
            exact b_zret S.1 S.2.1 X.2.1 X.2.2.1 rfl hP hD hS (Or.inl ⟨rfl, rfl⟩) dX9_isOf_44
          · rw [eq2 (a := a) (b := 3) (A := a.toInt) (B := 3) rfl rfl] at c_5
            refine lv_iload_n S.1 S.2.1 dX9_isOf_29 rfl (lv_at hl 0 rfl) ?_
            refine lv_iconst (v := (4)) S.1 S.2.1 dX9_isOf_30 (by decide) ?_
            refine lv_icmp_eq (tgt := 39) S.1 S.2.1 dX9_isOf_31 (by decide) (fun c_6 => ?_) (fun c_6 => ?_)
            · rw [eq2 (a := a) (b := 4) (A := a.toInt) (B := 4) rfl rfl] at c_6
              refine lv_iconst (v := (1)) S.1 S.2.1 dX9_isOf_39 (by decide) ?_
              refine lv_goto (tgt := 44) S.1 S.2.1 dX9_isOf_40 (by decide) ?_
              exact b_zret S.1 S.2.1 X.2.1 X.2.2.1 rfl hP hD hS (Or.inl ⟨rfl, rfl⟩) dX9_isOf_44
            · rw [eq2 (a := a) (b := 4) (A := a.toInt) (B := 4) rfl rfl] at c_6
              refine lv_iload_n S.1 S.2.1 dX9_isOf_34 rfl (lv_at hl 0 rfl) ?_
              refine lv_iconst (v := (5)) S.1 S.2.1 dX9_isOf_35 (by decide) ?_
              refine lv_icmp_ne (tgt := 43) S.1 S.2.1 dX9_isOf_36 (by decide) (fun c_7 => ?_) (fun c_7 => ?_)
              · rw [eq2 (a := a) (b := 5) (A := a.toInt) (B := 5) rfl rfl] at c_7
                refine lv_iconst (v := (0)) S.1 S.2.1 dX9_isOf_43 (by decide) ?_
                exact b_zret S.1 S.2.1 X.2.1 X.2.2.1 rfl hP hD hS (Or.inr (⟨rfl, rfl⟩)) dX9_isOf_44
              · rw [eq2 (a := a) (b := 5) (A := a.toInt) (B := 5) rfl rfl] at c_7
                refine lv_iconst (v := (1)) S.1 S.2.1 dX9_isOf_39 (by decide) ?_
                refine lv_goto (tgt := 44) S.1 S.2.1 dX9_isOf_40 (by decide) ?_
                exact b_zret S.1 S.2.1 X.2.1 X.2.2.1 rfl hP hD hS (Or.inl ⟨rfl, rfl⟩) dX9_isOf_44
      · rw [eq2 (a := b) (b := 3) (A := b.toInt) (B := 3) rfl rfl] at c_3
        refine lv_iload_n S.1 S.2.1 dX9_isOf_14 rfl (lv_at hl 0 rfl) ?_
        refine lv_iconst (v := (5)) S.1 S.2.1 dX9_isOf_15 (by decide) ?_
        refine lv_icmp_eq (tgt := 39) S.1 S.2.1 dX9_isOf_16 (by decide) (fun c_8 => ?_) (fun c_8 => ?_)
        · rw [eq2 (a := a) (b := 5) (A := a.toInt) (B := 5) rfl rfl] at c_8
          refine lv_iconst (v := (1)) S.1 S.2.1 dX9_isOf_39 (by decide) ?_
          refine lv_goto (tgt := 44) S.1 S.2.1 dX9_isOf_40 (by decide) ?_
          exact b_zret S.1 S.2.1 X.2.1 X.2.2.1 rfl hP hD hS (Or.inl ⟨rfl, rfl⟩) dX9_isOf_44
        · rw [eq2 (a := a) (b := 5) (A := a.toInt) (B := 5) rfl rfl] at c_8
          refine lv_iload_n S.1 S.2.1 dX9_isOf_19 rfl (lv_at hl 1 rfl) ?_
          refine lv_iconst (v := (2)) S.1 S.2.1 dX9_isOf_20 (by decide) ?_
          refine lv_icmp_ne (tgt := 43) S.1 S.2.1 dX9_isOf_21 (by decide) (fun c_9 => ?_) (fun c_9 => ?_)
          · rw [eq2 (a := b) (b := 2) (A := b.toInt) (B := 2) rfl rfl] at c_9
            refine lv_iconst (v := (0)) S.1 S.2.1 dX9_isOf_43 (by decide) ?_
            exact b_zret S.1 S.2.1 X.2.1 X.2.2.1 rfl hP hD hS (Or.inr (⟨rfl, rfl⟩)) dX9_isOf_44
          · rw [eq2 (a := b) (b := 2) (A := b.toInt) (B := 2) rfl rfl] at c_9
            refine lv_iload_n S.1 S.2.1 dX9_isOf_24 rfl (lv_at hl 0 rfl) ?_
            refine lv_iconst (v := (3)) S.1 S.2.1 dX9_isOf_25 (by decide) ?_
            refine lv_icmp_eq (tgt := 39) S.1 S.2.1 dX9_isOf_26 (by decide) (fun c_10 => ?_) (fun c_10 => ?_)
            · rw [eq2 (a := a) (b := 3) (A := a.toInt) (B := 3) rfl rfl] at c_10
              refine lv_iconst (v := (1)) S.1 S.2.1 dX9_isOf_39 (by decide) ?_
              refine lv_goto (tgt := 44) S.1 S.2.1 dX9_isOf_40 (by decide) ?_
              exact b_zret S.1 S.2.1 X.2.1 X.2.2.1 rfl hP hD hS (Or.inl ⟨rfl, rfl⟩) dX9_isOf_44
            · rw [eq2 (a := a) (b := 3) (A := a.toInt) (B := 3) rfl rfl] at c_10
              refine lv_iload_n S.1 S.2.1 dX9_isOf_29 rfl (lv_at hl 0 rfl) ?_
              refine lv_iconst (v := (4)) S.1 S.2.1 dX9_isOf_30 (by decide) ?_
              refine lv_icmp_eq (tgt := 39) S.1 S.2.1 dX9_isOf_31 (by decide) (fun c_11 => ?_) (fun c_11 => ?_)
              · rw [eq2 (a := a) (b := 4) (A := a.toInt) (B := 4) rfl rfl] at c_11
                refine lv_iconst (v := (1)) S.1 S.2.1 dX9_isOf_39 (by decide) ?_
                refine lv_goto (tgt := 44) S.1 S.2.1 dX9_isOf_40 (by decide) ?_
                exact b_zret S.1 S.2.1 X.2.1 X.2.2.1 rfl hP hD hS (Or.inl ⟨rfl, rfl⟩) dX9_isOf_44
              · rw [eq2 (a := a) (b := 4) (A := a.toInt) (B := 4) rfl rfl] at c_11
                refine lv_iload_n S.1 S.2.1 dX9_isOf_34 rfl (lv_at hl 0 rfl) ?_
                refine lv_iconst (v := (5)) S.1 S.2.1 dX9_isOf_35 (by decide) ?_
                refine lv_icmp_ne (tgt := 43) S.1 S.2.1 dX9_isOf_36 (by decide) (fun c_12 => ?_) (fun c_12 => ?_)
                · rw [eq2 (a := a) (b := 5) (A := a.toInt) (B := 5) rfl rfl] at c_12
                  refine lv_iconst (v := (0)) S.1 S.2.1 dX9_isOf_43 (by decide) ?_
                  exact b_zret S.1 S.2.1 X.2.1 X.2.2.1 rfl hP hD hS (Or.inr (⟨rfl, rfl⟩)) dX9_isOf_44
                · rw [eq2 (a := a) (b := 5) (A := a.toInt) (B := 5) rfl rfl] at c_12
                  refine lv_iconst (v := (1)) S.1 S.2.1 dX9_isOf_39 (by decide) ?_
                  refine lv_goto (tgt := 44) S.1 S.2.1 dX9_isOf_40 (by decide) ?_
                  exact b_zret S.1 S.2.1 X.2.1 X.2.2.1 rfl hP hD hS (Or.inl ⟨rfl, rfl⟩) dX9_isOf_44
set_option maxHeartbeats 4000000 in
set_option maxRecDepth 100000 in
theorem s_X9_finding_1 (l : Launch) (D : va_G) (cI cZ cC cS : ClassId) (sq : Nat → Nat) (sz : Nat) (y : Nat) (m_thrown : Int32) (m_status : Int32) (y_lane : Nat) (y_many : Nat) (y_item : Nat) (y_city : Nat) (y_fresh : Nat) (m_isThere : Int32) (y_tape : Nat) (m_taped : Int32) (m_latest : Int32) (m_length : Int32) (m_cursor : Int32) (m_token : Int32) (m_start : Int32) (m_till : Int32) (m_fault : Int32) (m_faultAt : Int32) (m_seen : Int32) (m_mirrors : Int32) (y_cost : Nat) (y_away : Nat) (y_fee : Nat) (y_goesTo : Nat) (y_priceWas : Nat) (y_isKept : Nat) (y_kept : Nat) (y_trace : Nat) (m_traced : Int32) : mI l yX9_finding wsX9_finding 0 0 D (tyW cI cZ cC cS) sq [(y, .inr (9, [.int m_thrown, .int m_status, .ref y_lane, .ref y_many, .ref y_item, .ref y_city, .ref y_fresh, .int m_isThere, .ref y_tape, .int m_taped, .int m_latest, .int m_length, .int m_cursor, .int m_token, .int m_start, .int m_till, .int m_fault, .int m_faultAt, .int m_seen, .int m_mirrors, .ref y_cost, .ref y_away, .ref y_fee, .ref y_goesTo, .ref y_priceWas, .ref y_isKept, .ref y_kept, .ref y_trace, .int m_traced]))] sz [.ref y, .int 1] (fun r w => (r = -1000011 ∧ w = [(y, .inr (9, [.int m_thrown, .int 1, .ref y_lane, .ref y_many, .ref y_item, .ref y_city, .ref y_fresh, .int m_isThere, .ref y_tape, .int m_taped, .int m_latest, .int m_length, .int m_cursor, .int m_token, .int m_start, .int m_till, .int m_fault, .int m_faultAt, .int m_seen, .int m_mirrors, .ref y_cost, .ref y_away, .ref y_fee, .ref y_goesTo, .ref y_priceWas, .ref y_isKept, .ref y_kept, .ref y_trace, .int m_traced]))])) := by
  refine b_metI (cc := cX9_finding) (maxL := 2) (ret := (some .int)) (by decide) rfl (Nat.le_of_ble_eq_true rfl) ?_
  intro p e s m below meth c ls A H X hsz hP hK hT hD hA hS hl
  have S : CallFix p m c cX9_finding 2 s ([.ref y, .int 1] : List Value).toArray wsX9_finding RX9 := X.1
  have hl : lv_has ls 2 [(0, .ref y), (1, .int 1)] := hl
  have iX9 := jX9_finding_X9
  refine lv_aload_n S.1 S.2.1 dX9_finding_0 rfl (lv_at hl 0 rfl) ?_
  refine lv_iload_n S.1 S.2.1 dX9_finding_1 rfl (lv_at hl 1 rfl) ?_
  refine b_put (v := .int 1) S iX9 tyX9 tyX9_ok nmX9 hK hP hD hS 0 rfl rfl 1 (by decide) (by decide +kernel) rfl rfl rfl (Nat.le_of_ble_eq_true rfl) dX9_finding_2 (fun H locs hP hD hS => ?_)
  have hP : va_P D vwCl [(y, .inr (9, [.int m_thrown, .int 1, .ref y_lane, .ref y_many, .ref y_item, .ref y_city, .ref y_fresh, .int m_isThere, .ref y_tape, .int m_taped, .int m_latest, .int m_length, .int m_cursor, .int m_token, .int m_start, .int m_till, .int m_fault, .int m_faultAt, .int m_seen, .int m_mirrors, .ref y_cost, .ref y_away, .ref y_fee, .ref y_goesTo, .ref y_priceWas, .ref y_isKept, .ref y_kept, .ref y_trace, .int m_traced]))] H := hP
  have hD : va_D A [(y, .inr (9, [.int m_thrown, .int 1, .ref y_lane, .ref y_many, .ref y_item, .ref y_city, .ref y_fresh, .int m_isThere, .ref y_tape, .int m_taped, .int m_latest, .int m_length, .int m_cursor, .int m_token, .int m_start, .int m_till, .int m_fault, .int m_faultAt, .int m_seen, .int m_mirrors, .ref y_cost, .ref y_away, .ref y_fee, .ref y_goesTo, .ref y_priceWas, .ref y_isKept, .ref y_kept, .ref y_trace, .int m_traced]))] := hD
  refine lv_ldc (v := (-1000010)) S.1 S.2.1 S.2.2.2.1 (S.2.2.2.2 (.constant RX9 60 (-1000010)) (by decide +kernel)) dX9_finding_5 ?_
  refine lv_iload_n S.1 S.2.1 dX9_finding_7 rfl (lv_at hl 1 rfl) ?_
  refine lv_isub S.1 S.2.1 dX9_finding_8 ?_
  refine lv_topi (fun x_1 ex_1 => ?_)
  have ex_1 : x_1 = -1000011 := by rw [ex_1]; decide
  subst ex_1
  exact b_iret S.1 S.2.1 X.2.1 X.2.2.1 hP hD hS ⟨rfl, rfl⟩ dX9_finding_9
set_option maxHeartbeats 4000000 in
set_option maxRecDepth 100000 in
theorem s_X9_finding_2 (l : Launch) (D : va_G) (cI cZ cC cS : ClassId) (sq : Nat → Nat) (sz : Nat) (y : Nat) (m_thrown : Int32) (m_status : Int32) (y_lane : Nat) (y_many : Nat) (y_item : Nat) (y_city : Nat) (y_fresh : Nat) (m_isThere : Int32) (y_tape : Nat) (m_taped : Int32) (m_latest : Int32) (m_length : Int32) (m_cursor : Int32) (m_token : Int32) (m_start : Int32) (m_till : Int32) (m_fault : Int32) (m_faultAt : Int32) (m_seen : Int32) (m_mirrors : Int32) (y_cost : Nat) (y_away : Nat) (y_fee : Nat) (y_goesTo : Nat) (y_priceWas : Nat) (y_isKept : Nat) (y_kept : Nat) (y_trace : Nat) (m_traced : Int32) : mI l yX9_finding wsX9_finding 0 0 D (tyW cI cZ cC cS) sq [(y, .inr (9, [.int m_thrown, .int m_status, .ref y_lane, .ref y_many, .ref y_item, .ref y_city, .ref y_fresh, .int m_isThere, .ref y_tape, .int m_taped, .int m_latest, .int m_length, .int m_cursor, .int m_token, .int m_start, .int m_till, .int m_fault, .int m_faultAt, .int m_seen, .int m_mirrors, .ref y_cost, .ref y_away, .ref y_fee, .ref y_goesTo, .ref y_priceWas, .ref y_isKept, .ref y_kept, .ref y_trace, .int m_traced]))] sz [.ref y, .int 2] (fun r w => (r = -1000012 ∧ w = [(y, .inr (9, [.int m_thrown, .int 2, .ref y_lane, .ref y_many, .ref y_item, .ref y_city, .ref y_fresh, .int m_isThere, .ref y_tape, .int m_taped, .int m_latest, .int m_length, .int m_cursor, .int m_token, .int m_start, .int m_till, .int m_fault, .int m_faultAt, .int m_seen, .int m_mirrors, .ref y_cost, .ref y_away, .ref y_fee, .ref y_goesTo, .ref y_priceWas, .ref y_isKept, .ref y_kept, .ref y_trace, .int m_traced]))])) := by
  refine b_metI (cc := cX9_finding) (maxL := 2) (ret := (some .int)) (by decide) rfl (Nat.le_of_ble_eq_true rfl) ?_
  intro p e s m below meth c ls A H X hsz hP hK hT hD hA hS hl
  have S : CallFix p m c cX9_finding 2 s ([.ref y, .int 2] : List Value).toArray wsX9_finding RX9 := X.1
  have hl : lv_has ls 2 [(0, .ref y), (1, .int 2)] := hl
  have iX9 := jX9_finding_X9
  refine lv_aload_n S.1 S.2.1 dX9_finding_0 rfl (lv_at hl 0 rfl) ?_
  refine lv_iload_n S.1 S.2.1 dX9_finding_1 rfl (lv_at hl 1 rfl) ?_
  refine b_put (v := .int 2) S iX9 tyX9 tyX9_ok nmX9 hK hP hD hS 0 rfl rfl 1 (by decide) (by decide +kernel) rfl rfl rfl (Nat.le_of_ble_eq_true rfl) dX9_finding_2 (fun H locs hP hD hS => ?_)
  have hP : va_P D vwCl [(y, .inr (9, [.int m_thrown, .int 2, .ref y_lane, .ref y_many, .ref y_item, .ref y_city, .ref y_fresh, .int m_isThere, .ref y_tape, .int m_taped, .int m_latest, .int m_length, .int m_cursor, .int m_token, .int m_start, .int m_till, .int m_fault, .int m_faultAt, .int m_seen, .int m_mirrors, .ref y_cost, .ref y_away, .ref y_fee, .ref y_goesTo, .ref y_priceWas, .ref y_isKept, .ref y_kept, .ref y_trace, .int m_traced]))] H := hP
  have hD : va_D A [(y, .inr (9, [.int m_thrown, .int 2, .ref y_lane, .ref y_many, .ref y_item, .ref y_city, .ref y_fresh, .int m_isThere, .ref y_tape, .int m_taped, .int m_latest, .int m_length, .int m_cursor, .int m_token, .int m_start, .int m_till, .int m_fault, .int m_faultAt, .int m_seen, .int m_mirrors, .ref y_cost, .ref y_away, .ref y_fee, .ref y_goesTo, .ref y_priceWas, .ref y_isKept, .ref y_kept, .ref y_trace, .int m_traced]))] := hD
  refine lv_ldc (v := (-1000010)) S.1 S.2.1 S.2.2.2.1 (S.2.2.2.2 (.constant RX9 60 (-1000010)) (by decide +kernel)) dX9_finding_5 ?_
  refine lv_iload_n S.1 S.2.1 dX9_finding_7 rfl (lv_at hl 1 rfl) ?_
  refine lv_isub S.1 S.2.1 dX9_finding_8 ?_
  refine lv_topi (fun x_1 ex_1 => ?_)
  have ex_1 : x_1 = -1000012 := by rw [ex_1]; decide
  subst ex_1
  exact b_iret S.1 S.2.1 X.2.1 X.2.2.1 hP hD hS ⟨rfl, rfl⟩ dX9_finding_9
set_option maxHeartbeats 4000000 in
set_option maxRecDepth 100000 in
theorem s_X9_finding_3 (l : Launch) (D : va_G) (cI cZ cC cS : ClassId) (sq : Nat → Nat) (sz : Nat) (y : Nat) (m_thrown : Int32) (m_status : Int32) (y_lane : Nat) (y_many : Nat) (y_item : Nat) (y_city : Nat) (y_fresh : Nat) (m_isThere : Int32) (y_tape : Nat) (m_taped : Int32) (m_latest : Int32) (m_length : Int32) (m_cursor : Int32) (m_token : Int32) (m_start : Int32) (m_till : Int32) (m_fault : Int32) (m_faultAt : Int32) (m_seen : Int32) (m_mirrors : Int32) (y_cost : Nat) (y_away : Nat) (y_fee : Nat) (y_goesTo : Nat) (y_priceWas : Nat) (y_isKept : Nat) (y_kept : Nat) (y_trace : Nat) (m_traced : Int32) : mI l yX9_finding wsX9_finding 0 0 D (tyW cI cZ cC cS) sq [(y, .inr (9, [.int m_thrown, .int m_status, .ref y_lane, .ref y_many, .ref y_item, .ref y_city, .ref y_fresh, .int m_isThere, .ref y_tape, .int m_taped, .int m_latest, .int m_length, .int m_cursor, .int m_token, .int m_start, .int m_till, .int m_fault, .int m_faultAt, .int m_seen, .int m_mirrors, .ref y_cost, .ref y_away, .ref y_fee, .ref y_goesTo, .ref y_priceWas, .ref y_isKept, .ref y_kept, .ref y_trace, .int m_traced]))] sz [.ref y, .int 3] (fun r w => (r = -1000013 ∧ w = [(y, .inr (9, [.int m_thrown, .int 3, .ref y_lane, .ref y_many, .ref y_item, .ref y_city, .ref y_fresh, .int m_isThere, .ref y_tape, .int m_taped, .int m_latest, .int m_length, .int m_cursor, .int m_token, .int m_start, .int m_till, .int m_fault, .int m_faultAt, .int m_seen, .int m_mirrors, .ref y_cost, .ref y_away, .ref y_fee, .ref y_goesTo, .ref y_priceWas, .ref y_isKept, .ref y_kept, .ref y_trace, .int m_traced]))])) := by
  refine b_metI (cc := cX9_finding) (maxL := 2) (ret := (some .int)) (by decide) rfl (Nat.le_of_ble_eq_true rfl) ?_
  intro p e s m below meth c ls A H X hsz hP hK hT hD hA hS hl
  have S : CallFix p m c cX9_finding 2 s ([.ref y, .int 3] : List Value).toArray wsX9_finding RX9 := X.1
  have hl : lv_has ls 2 [(0, .ref y), (1, .int 3)] := hl
  have iX9 := jX9_finding_X9
  refine lv_aload_n S.1 S.2.1 dX9_finding_0 rfl (lv_at hl 0 rfl) ?_
  refine lv_iload_n S.1 S.2.1 dX9_finding_1 rfl (lv_at hl 1 rfl) ?_
  refine b_put (v := .int 3) S iX9 tyX9 tyX9_ok nmX9 hK hP hD hS 0 rfl rfl 1 (by decide) (by decide +kernel) rfl rfl rfl (Nat.le_of_ble_eq_true rfl) dX9_finding_2 (fun H locs hP hD hS => ?_)
  have hP : va_P D vwCl [(y, .inr (9, [.int m_thrown, .int 3, .ref y_lane, .ref y_many, .ref y_item, .ref y_city, .ref y_fresh, .int m_isThere, .ref y_tape, .int m_taped, .int m_latest, .int m_length, .int m_cursor, .int m_token, .int m_start, .int m_till, .int m_fault, .int m_faultAt, .int m_seen, .int m_mirrors, .ref y_cost, .ref y_away, .ref y_fee, .ref y_goesTo, .ref y_priceWas, .ref y_isKept, .ref y_kept, .ref y_trace, .int m_traced]))] H := hP
  have hD : va_D A [(y, .inr (9, [.int m_thrown, .int 3, .ref y_lane, .ref y_many, .ref y_item, .ref y_city, .ref y_fresh, .int m_isThere, .ref y_tape, .int m_taped, .int m_latest, .int m_length, .int m_cursor, .int m_token, .int m_start, .int m_till, .int m_fault, .int m_faultAt, .int m_seen, .int m_mirrors, .ref y_cost, .ref y_away, .ref y_fee, .ref y_goesTo, .ref y_priceWas, .ref y_isKept, .ref y_kept, .ref y_trace, .int m_traced]))] := hD
  refine lv_ldc (v := (-1000010)) S.1 S.2.1 S.2.2.2.1 (S.2.2.2.2 (.constant RX9 60 (-1000010)) (by decide +kernel)) dX9_finding_5 ?_
  refine lv_iload_n S.1 S.2.1 dX9_finding_7 rfl (lv_at hl 1 rfl) ?_
  refine lv_isub S.1 S.2.1 dX9_finding_8 ?_
  refine lv_topi (fun x_1 ex_1 => ?_)
  have ex_1 : x_1 = -1000013 := by rw [ex_1]; decide
  subst ex_1
  exact b_iret S.1 S.2.1 X.2.1 X.2.2.1 hP hD hS ⟨rfl, rfl⟩ dX9_finding_9
set_option maxHeartbeats 4000000 in
set_option maxRecDepth 100000 in
theorem s_X9_finding_4 (l : Launch) (D : va_G) (cI cZ cC cS : ClassId) (sq : Nat → Nat) (sz : Nat) (y : Nat) (m_thrown : Int32) (m_status : Int32) (y_lane : Nat) (y_many : Nat) (y_item : Nat) (y_city : Nat) (y_fresh : Nat) (m_isThere : Int32) (y_tape : Nat) (m_taped : Int32) (m_latest : Int32) (m_length : Int32) (m_cursor : Int32) (m_token : Int32) (m_start : Int32) (m_till : Int32) (m_fault : Int32) (m_faultAt : Int32) (m_seen : Int32) (m_mirrors : Int32) (y_cost : Nat) (y_away : Nat) (y_fee : Nat) (y_goesTo : Nat) (y_priceWas : Nat) (y_isKept : Nat) (y_kept : Nat) (y_trace : Nat) (m_traced : Int32) : mI l yX9_finding wsX9_finding 0 0 D (tyW cI cZ cC cS) sq [(y, .inr (9, [.int m_thrown, .int m_status, .ref y_lane, .ref y_many, .ref y_item, .ref y_city, .ref y_fresh, .int m_isThere, .ref y_tape, .int m_taped, .int m_latest, .int m_length, .int m_cursor, .int m_token, .int m_start, .int m_till, .int m_fault, .int m_faultAt, .int m_seen, .int m_mirrors, .ref y_cost, .ref y_away, .ref y_fee, .ref y_goesTo, .ref y_priceWas, .ref y_isKept, .ref y_kept, .ref y_trace, .int m_traced]))] sz [.ref y, .int 4] (fun r w => (r = -1000014 ∧ w = [(y, .inr (9, [.int m_thrown, .int 4, .ref y_lane, .ref y_many, .ref y_item, .ref y_city, .ref y_fresh, .int m_isThere, .ref y_tape, .int m_taped, .int m_latest, .int m_length, .int m_cursor, .int m_token, .int m_start, .int m_till, .int m_fault, .int m_faultAt, .int m_seen, .int m_mirrors, .ref y_cost, .ref y_away, .ref y_fee, .ref y_goesTo, .ref y_priceWas, .ref y_isKept, .ref y_kept, .ref y_trace, .int m_traced]))])) := by
  refine b_metI (cc := cX9_finding) (maxL := 2) (ret := (some .int)) (by decide) rfl (Nat.le_of_ble_eq_true rfl) ?_
  intro p e s m below meth c ls A H X hsz hP hK hT hD hA hS hl
  have S : CallFix p m c cX9_finding 2 s ([.ref y, .int 4] : List Value).toArray wsX9_finding RX9 := X.1
  have hl : lv_has ls 2 [(0, .ref y), (1, .int 4)] := hl
  have iX9 := jX9_finding_X9
  refine lv_aload_n S.1 S.2.1 dX9_finding_0 rfl (lv_at hl 0 rfl) ?_
  refine lv_iload_n S.1 S.2.1 dX9_finding_1 rfl (lv_at hl 1 rfl) ?_
  refine b_put (v := .int 4) S iX9 tyX9 tyX9_ok nmX9 hK hP hD hS 0 rfl rfl 1 (by decide) (by decide +kernel) rfl rfl rfl (Nat.le_of_ble_eq_true rfl) dX9_finding_2 (fun H locs hP hD hS => ?_)
  have hP : va_P D vwCl [(y, .inr (9, [.int m_thrown, .int 4, .ref y_lane, .ref y_many, .ref y_item, .ref y_city, .ref y_fresh, .int m_isThere, .ref y_tape, .int m_taped, .int m_latest, .int m_length, .int m_cursor, .int m_token, .int m_start, .int m_till, .int m_fault, .int m_faultAt, .int m_seen, .int m_mirrors, .ref y_cost, .ref y_away, .ref y_fee, .ref y_goesTo, .ref y_priceWas, .ref y_isKept, .ref y_kept, .ref y_trace, .int m_traced]))] H := hP
  have hD : va_D A [(y, .inr (9, [.int m_thrown, .int 4, .ref y_lane, .ref y_many, .ref y_item, .ref y_city, .ref y_fresh, .int m_isThere, .ref y_tape, .int m_taped, .int m_latest, .int m_length, .int m_cursor, .int m_token, .int m_start, .int m_till, .int m_fault, .int m_faultAt, .int m_seen, .int m_mirrors, .ref y_cost, .ref y_away, .ref y_fee, .ref y_goesTo, .ref y_priceWas, .ref y_isKept, .ref y_kept, .ref y_trace, .int m_traced]))] := hD
  refine lv_ldc (v := (-1000010)) S.1 S.2.1 S.2.2.2.1 (S.2.2.2.2 (.constant RX9 60 (-1000010)) (by decide +kernel)) dX9_finding_5 ?_
  refine lv_iload_n S.1 S.2.1 dX9_finding_7 rfl (lv_at hl 1 rfl) ?_
  refine lv_isub S.1 S.2.1 dX9_finding_8 ?_
  refine lv_topi (fun x_1 ex_1 => ?_)
  have ex_1 : x_1 = -1000014 := by rw [ex_1]; decide
  subst ex_1
  exact b_iret S.1 S.2.1 X.2.1 X.2.2.1 hP hD hS ⟨rfl, rfl⟩ dX9_finding_9
set_option maxHeartbeats 4000000 in
set_option maxRecDepth 100000 in
theorem s_X9_finding_5 (l : Launch) (D : va_G) (cI cZ cC cS : ClassId) (sq : Nat → Nat) (sz : Nat) (y : Nat) (m_thrown : Int32) (m_status : Int32) (y_lane : Nat) (y_many : Nat) (y_item : Nat) (y_city : Nat) (y_fresh : Nat) (m_isThere : Int32) (y_tape : Nat) (m_taped : Int32) (m_latest : Int32) (m_length : Int32) (m_cursor : Int32) (m_token : Int32) (m_start : Int32) (m_till : Int32) (m_fault : Int32) (m_faultAt : Int32) (m_seen : Int32) (m_mirrors : Int32) (y_cost : Nat) (y_away : Nat) (y_fee : Nat) (y_goesTo : Nat) (y_priceWas : Nat) (y_isKept : Nat) (y_kept : Nat) (y_trace : Nat) (m_traced : Int32) : mI l yX9_finding wsX9_finding 0 0 D (tyW cI cZ cC cS) sq [(y, .inr (9, [.int m_thrown, .int m_status, .ref y_lane, .ref y_many, .ref y_item, .ref y_city, .ref y_fresh, .int m_isThere, .ref y_tape, .int m_taped, .int m_latest, .int m_length, .int m_cursor, .int m_token, .int m_start, .int m_till, .int m_fault, .int m_faultAt, .int m_seen, .int m_mirrors, .ref y_cost, .ref y_away, .ref y_fee, .ref y_goesTo, .ref y_priceWas, .ref y_isKept, .ref y_kept, .ref y_trace, .int m_traced]))] sz [.ref y, .int 5] (fun r w => (r = -1000015 ∧ w = [(y, .inr (9, [.int m_thrown, .int 5, .ref y_lane, .ref y_many, .ref y_item, .ref y_city, .ref y_fresh, .int m_isThere, .ref y_tape, .int m_taped, .int m_latest, .int m_length, .int m_cursor, .int m_token, .int m_start, .int m_till, .int m_fault, .int m_faultAt, .int m_seen, .int m_mirrors, .ref y_cost, .ref y_away, .ref y_fee, .ref y_goesTo, .ref y_priceWas, .ref y_isKept, .ref y_kept, .ref y_trace, .int m_traced]))])) := by
  refine b_metI (cc := cX9_finding) (maxL := 2) (ret := (some .int)) (by decide) rfl (Nat.le_of_ble_eq_true rfl) ?_
  intro p e s m below meth c ls A H X hsz hP hK hT hD hA hS hl
  have S : CallFix p m c cX9_finding 2 s ([.ref y, .int 5] : List Value).toArray wsX9_finding RX9 := X.1
  have hl : lv_has ls 2 [(0, .ref y), (1, .int 5)] := hl
  have iX9 := jX9_finding_X9
  refine lv_aload_n S.1 S.2.1 dX9_finding_0 rfl (lv_at hl 0 rfl) ?_
  refine lv_iload_n S.1 S.2.1 dX9_finding_1 rfl (lv_at hl 1 rfl) ?_
  refine b_put (v := .int 5) S iX9 tyX9 tyX9_ok nmX9 hK hP hD hS 0 rfl rfl 1 (by decide) (by decide +kernel) rfl rfl rfl (Nat.le_of_ble_eq_true rfl) dX9_finding_2 (fun H locs hP hD hS => ?_)
  have hP : va_P D vwCl [(y, .inr (9, [.int m_thrown, .int 5, .ref y_lane, .ref y_many, .ref y_item, .ref y_city, .ref y_fresh, .int m_isThere, .ref y_tape, .int m_taped, .int m_latest, .int m_length, .int m_cursor, .int m_token, .int m_start, .int m_till, .int m_fault, .int m_faultAt, .int m_seen, .int m_mirrors, .ref y_cost, .ref y_away, .ref y_fee, .ref y_goesTo, .ref y_priceWas, .ref y_isKept, .ref y_kept, .ref y_trace, .int m_traced]))] H := hP
  have hD : va_D A [(y, .inr (9, [.int m_thrown, .int 5, .ref y_lane, .ref y_many, .ref y_item, .ref y_city, .ref y_fresh, .int m_isThere, .ref y_tape, .int m_taped, .int m_latest, .int m_length, .int m_cursor, .int m_token, .int m_start, .int m_till, .int m_fault, .int m_faultAt, .int m_seen, .int m_mirrors, .ref y_cost, .ref y_away, .ref y_fee, .ref y_goesTo, .ref y_priceWas, .ref y_isKept, .ref y_kept, .ref y_trace, .int m_traced]))] := hD
  refine lv_ldc (v := (-1000010)) S.1 S.2.1 S.2.2.2.1 (S.2.2.2.2 (.constant RX9 60 (-1000010)) (by decide +kernel)) dX9_finding_5 ?_
  refine lv_iload_n S.1 S.2.1 dX9_finding_7 rfl (lv_at hl 1 rfl) ?_
  refine lv_isub S.1 S.2.1 dX9_finding_8 ?_
  refine lv_topi (fun x_1 ex_1 => ?_)
  have ex_1 : x_1 = -1000015 := by rw [ex_1]; decide
  subst ex_1
  exact b_iret S.1 S.2.1 X.2.1 X.2.2.1 hP hD hS ⟨rfl, rfl⟩ dX9_finding_9
set_option maxHeartbeats 4000000 in
set_option maxRecDepth 100000 in
theorem s_X9_byteAt (l : Launch) (D : va_G) (cI cZ cC cS : ClassId) (sq : Nat → Nat) (sz : Nat) (y : Nat) (y_tape : Nat) (k : Int32) (m_thrown : Int32) (m_status : Int32) (y_lane : Nat) (y_many : Nat) (y_item : Nat) (y_city : Nat) (y_fresh : Nat) (m_isThere : Int32) (m_taped : Int32) (m_latest : Int32) (m_length : Int32) (m_cursor : Int32) (m_token : Int32) (m_start : Int32) (m_till : Int32) (m_fault : Int32) (m_faultAt : Int32) (m_seen : Int32) (m_mirrors : Int32) (y_cost : Nat) (y_away : Nat) (y_fee : Nat) (y_goesTo : Nat) (y_priceWas : Nat) (y_isKept : Nat) (y_kept : Nat) (y_trace : Nat) (m_traced : Int32) (tf : Nat → Int32) (hrg_tf : rng tf 400 (0) (255)) (hk : 0 ≤ k.toInt) (hl_ : m_length.toInt ≤ 400) : mI l yX9_byteAt wsX9_byteAt 0 0 D (tyW cI cZ cC cS) sq [(y, .inr (9, [.int m_thrown, .int m_status, .ref y_lane, .ref y_many, .ref y_item, .ref y_city, .ref y_fresh, .int m_isThere, .ref y_tape, .int m_taped, .int m_latest, .int m_length, .int m_cursor, .int m_token, .int m_start, .int m_till, .int m_fault, .int m_faultAt, .int m_seen, .int m_mirrors, .ref y_cost, .ref y_away, .ref y_fee, .ref y_goesTo, .ref y_priceWas, .ref y_isKept, .ref y_kept, .ref y_trace, .int m_traced])), (y_tape, .inl (cI, 400, .inl tf))] sz [.ref y, .int k] (fun r w => ((k.toInt < m_length.toInt ∧ 0 ≤ r.toInt ∧ r.toInt ≤ 255) ∧ (r = tf k.toInt.toNat) ∧ (tx tf m_length.toInt k.toInt = r.toInt) ∧ w = [(y, .inr (9, [.int m_thrown, .int m_status, .ref y_lane, .ref y_many, .ref y_item, .ref y_city, .ref y_fresh, .int m_isThere, .ref y_tape, .int m_taped, .int m_latest, .int m_length, .int m_cursor, .int m_token, .int m_start, .int m_till, .int m_fault, .int m_faultAt, .int m_seen, .int m_mirrors, .ref y_cost, .ref y_away, .ref y_fee, .ref y_goesTo, .ref y_priceWas, .ref y_isKept, .ref y_kept, .ref y_trace, .int m_traced])), (y_tape, .inl (cI, 400, .inl tf))]) ∨ ((m_length.toInt ≤ k.toInt) ∧ (tx tf m_length.toInt k.toInt = -1000000) ∧ r = -1000000 ∧ w = [(y, .inr (9, [.int m_thrown, .int m_status, .ref y_lane, .ref y_many, .ref y_item, .ref y_city, .ref y_fresh, .int m_isThere, .ref y_tape, .int m_taped, .int m_latest, .int m_length, .int m_cursor, .int m_token, .int m_start, .int m_till, .int m_fault, .int m_faultAt, .int m_seen, .int m_mirrors, .ref y_cost, .ref y_away, .ref y_fee, .ref y_goesTo, .ref y_priceWas, .ref y_isKept, .ref y_kept, .ref y_trace, .int m_traced])), (y_tape, .inl (cI, 400, .inl tf))])) := by
  refine b_metI (cc := cX9_byteAt) (maxL := 2) (ret := (some .int)) (by decide) rfl (Nat.le_of_ble_eq_true rfl) ?_
  intro p e s m below meth c ls A H X hsz hP hK hT hD hA hS hl
  have S : CallFix p m c cX9_byteAt 2 s ([.ref y, .int k] : List Value).toArray wsX9_byteAt RX9 := X.1
  have hl : lv_has ls 2 [(0, .ref y), (1, .int k)] := hl
  have iX9 := jX9_byteAt_X9
  refine lv_iload_n S.1 S.2.1 dX9_byteAt_0 rfl (lv_at hl 1 rfl) ?_
  refine lv_aload_n S.1 S.2.1 dX9_byteAt_1 rfl (lv_at hl 0 rfl) ?_
  refine b_get (v := .int m_length) S iX9 hK hP 0 rfl rfl 11 (by decide) (by decide +kernel) rfl dX9_byteAt_2 ?_
  refine lv_icmp_ge (tgt := 17) S.1 S.2.1 dX9_byteAt_5 (by decide) (fun c_1 => ?_) (fun c_1 => ?_)
  · rw [le2 (a := m_length) (b := k) (A := m_length.toInt) (B := k.toInt) rfl rfl] at c_1
    refine lv_ldc (v := (-1000000)) S.1 S.2.1 S.2.2.2.1 (S.2.2.2.2 (.constant RX9 89 (-1000000)) (by decide +kernel)) dX9_byteAt_17 ?_
    exact b_iret S.1 S.2.1 X.2.1 X.2.2.1 hP hD hS (Or.inr (⟨(by first | with_reducible assumption | decide | (and_intros <;> first | with_reducible assumption | (intros; refine Int.le_antisymm ?_ ?_ <;> omega) | omega) | assumption | (rw [show Int32.toInt 0 = 0 from rfl]; omega)), (tx_out (by first | (and_intros <;> first | with_reducible assumption | (refine Int.le_antisymm ?_ ?_ <;> omega) | omega) | omega)), rfl, rfl⟩)) dX9_byteAt_19
  · rw [le2 (a := m_length) (b := k) (A := m_length.toInt) (B := k.toInt) rfl rfl] at c_1
    refine lv_aload_n S.1 S.2.1 dX9_byteAt_8 rfl (lv_at hl 0 rfl) ?_
    refine b_get (v := .ref y_tape) S iX9 hK hP 0 rfl rfl 8 (by decide) (by decide +kernel) rfl dX9_byteAt_9 ?_
    refine lv_iload_n S.1 S.2.1 dX9_byteAt_12 rfl (lv_at hl 1 rfl) ?_
    have hin_2 : vp_in k 400 := (in_of (n := 400) (by  omega) (by  omega))
    refine va_iald S.1 S.2.1 hK.1 hP 1 0 rfl rfl hin_2 dX9_byteAt_13 ?_
    refine lv_topi (fun x_3 ex_3 => ?_)
    have tx_3 := rng_get (x := x_3) (show rng tf 400 (0) (255) by assumption) hin_2 ex_3
    have qx_3 := tx_get (n := m_length.toInt) (i := k) (by first | (and_intros <;> first | with_reducible assumption | (refine Int.le_antisymm ?_ ?_ <;> omega) | omega) | omega) (by first | (and_intros <;> first | with_reducible assumption | (refine Int.le_antisymm ?_ ?_ <;> omega) | omega) | omega) ex_3
    refine lv_goto (tgt := 19) S.1 S.2.1 dX9_byteAt_14 (by decide) ?_
    exact b_iret S.1 S.2.1 X.2.1 X.2.2.1 hP hD hS (Or.inl ⟨(by first | with_reducible assumption | decide | (and_intros <;> first | with_reducible assumption | (intros; refine Int.le_antisymm ?_ ?_ <;> omega) | omega) | assumption | (rw [show Int32.toInt 0 = 0 from rfl]; omega)), (by first | with_reducible assumption | assumption), (by first | with_reducible assumption | assumption), rfl⟩) dX9_byteAt_19
