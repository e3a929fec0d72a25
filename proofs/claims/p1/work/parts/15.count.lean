set_option maxRecDepth 20000 in
theorem ggX8_city_X3_read : GoodIn wsX8_city wsX3_read := goodIn_r _ [16, 17, 18, 19, 20, 21, 22, 23, 24, 25, 26, 27, 28, 29, 30, 31, 32, 33, 34, 35, 36, 37, 38, 39, 40, 41, 42, 43, 44, 45, 46, 47, 48, 49, 50, 51, 52, 53, 54, 55, 56, 57, 58, 59, 60, 61, 62, 63, 64, 65, 66, 67, 68, 69, 70, 71, 72, 73, 74, 75, 76, 77, 78, 79, 80, 81, 82, 83, 84, 85, 86, 87, 88, 89, 90, 91, 92, 93, 94, 95, 96, 97, 98, 99, 100, 101, 102, 103, 104, 105, 106, 107, 108, 109, 110, 111, 112, 113, 114, 115, 116, 117, 118, 15, 119, 120, 121, 122, 123, 124, 125, 126, 127, 128, 129, 130, 131, 132, 133, 134, 135, 136, 137, 138, 139, 140, 141, 142, 143, 144, 145, 146, 147, 148, 149, 150, 151, 152, 153, 154, 155, 156, 157, 158, 159, 160, 161, 162, 163, 164, 165, 166, 167, 168, 169, 170, 171, 172, 173, 174, 175, 176, 177, 178, 179, 180, 181, 182, 183, 184, 185, 186, 187, 188, 253, 254, 255, 256, 247, 248, 249, 250, 251, 252, 257, 258, 259, 260, 261, 262, 263, 264, 265, 266, 267, 268] (by decide +kernel) (by decide +kernel)
set_option maxRecDepth 20000 in
theorem gX8_city_X3_read : GoodIn wsX8_city (wsV RX8 146 RX3 yX3_read wsX3_read) := goodIn_app (goodIn_of _ (by decide +kernel)) ggX8_city_X3_read
set_option maxRecDepth 20000 in
theorem ggX8_count_X1_fronts : GoodIn wsX8_count wsX1_fronts := goodIn_r _ [24, 25, 26, 27, 23, 28, 29, 30, 31, 32, 33, 34, 35, 57, 58, 59, 60, 61, 62, 63, 64, 65, 66, 67, 68] (by decide +kernel) (by decide +kernel)
set_option maxRecDepth 20000 in
theorem gX8_count_X1_fronts : GoodIn wsX8_count (wsV RX8 305 RX1 yX1_fronts wsX1_fronts) := goodIn_app (goodIn_of _ (by decide +kernel)) ggX8_count_X1_fronts
set_option maxRecDepth 20000 in
theorem ggX8_count_X1_mirrors : GoodIn wsX8_count wsX1_mirrors := goodIn_r _ [39, 40, 41, 42, 23, 43, 29, 30, 31, 32, 33, 34, 35, 57, 58, 59, 60, 61, 62, 63, 64, 65, 66, 67, 68] (by decide +kernel) (by decide +kernel)
set_option maxRecDepth 20000 in
theorem gX8_count_X1_mirrors : GoodIn wsX8_count (wsV RX8 308 RX1 yX1_mirrors wsX1_mirrors) := goodIn_app (goodIn_of _ (by decide +kernel)) ggX8_count_X1_mirrors
set_option maxRecDepth 20000 in
theorem ggX8_count_X8_sheetsThere : GoodIn wsX8_count wsX8_sheetsThere := goodIn_r _ [12, 13, 14, 15, 16, 17, 18, 19, 44, 45, 46, 47, 48, 49, 50, 51, 52, 53, 54, 55, 56, 75, 76, 77] (by decide +kernel) (by decide +kernel)
set_option maxRecDepth 20000 in
theorem gX8_count_X8_sheetsThere : GoodIn wsX8_count (wsV RX8 296 RX8 yX8_sheetsThere wsX8_sheetsThere) := goodIn_app (goodIn_of _ (by decide +kernel)) ggX8_count_X8_sheetsThere
set_option maxRecDepth 20000 in
theorem ggX8_sheetsThere_X4_isMissing : GoodIn wsX8_sheetsThere wsX4_isMissing := goodIn_r _ [6, 7, 21, 22, 23] (by decide +kernel) (by decide +kernel)
set_option maxRecDepth 20000 in
theorem gX8_sheetsThere_X4_isMissing : GoodIn wsX8_sheetsThere (wsV RX8 110 RX4 yX4_isMissing wsX4_isMissing) := goodIn_app (goodIn_of _ (by decide +kernel)) ggX8_sheetsThere_X4_isMissing
theorem dX8_city_0 : decode cX8_city 0 = .ok (.aload_n 0, 1) := by decide +kernel
theorem dX8_city_1 : decode cX8_city 1 = .ok (.getfield 37, 3) := by decide +kernel
theorem dX8_city_12 : decode cX8_city 12 = .ok (.iconst 0, 1) := by decide +kernel
theorem dX8_city_13 : decode cX8_city 13 = .ok (.putfield 145, 3) := by decide +kernel
theorem dX8_city_16 : decode cX8_city 16 = .ok (.iload_n 1, 1) := by decide +kernel
theorem dX8_city_17 : decode cX8_city 17 = .ok (.ifCond .ne 25, 3) := by decide +kernel
theorem dX8_city_20 : decode cX8_city 20 = .ok (.aload_n 0, 1) := by decide +kernel
theorem dX8_city_21 : decode cX8_city 21 = .ok (.aload_n 0, 1) := by decide +kernel
theorem dX8_city_22 : decode cX8_city 22 = .ok (.getfield 37, 3) := by decide +kernel
theorem dX8_city_25 : decode cX8_city 25 = .ok (.getfield 149, 3) := by decide +kernel
theorem dX8_city_28 : decode cX8_city 28 = .ok (.putfield 82, 3) := by decide +kernel
theorem dX8_city_31 : decode cX8_city 31 = .ok (.ldc 152, 2) := by decide +kernel
theorem dX8_city_33 : decode cX8_city 33 = .ok (.aload_n 0, 1) := by decide +kernel
theorem dX8_city_34 : decode cX8_city 34 = .ok (.getfield 37, 3) := by decide +kernel
theorem dX8_city_37 : decode cX8_city 37 = .ok (.getfield 153, 3) := by decide +kernel
theorem dX8_city_4 : decode cX8_city 4 = .ok (.invokevirtual 146, 3) := by decide +kernel
theorem dX8_city_40 : decode cX8_city 40 = .ok (.isub, 1) := by decide +kernel
theorem dX8_city_41 : decode cX8_city 41 = .ok (.ireturn, 1) := by decide +kernel
theorem dX8_city_7 : decode cX8_city 7 = .ok (.istore_n 1, 1) := by decide +kernel
theorem dX8_city_8 : decode cX8_city 8 = .ok (.aload_n 0, 1) := by decide +kernel
theorem dX8_city_9 : decode cX8_city 9 = .ok (.getfield 18, 3) := by decide +kernel
theorem dX8_count_0 : decode cX8_count 0 = .ok (.iload_n 1, 1) := by decide +kernel
theorem dX8_count_1 : decode cX8_count 1 = .ok (.tableswitch 96 0 6 #[43, 48, 56, 64, 72, 80, 88], 43) := by decide +kernel
theorem dX8_count_44 : decode cX8_count 44 = .ok (.aload_n 0, 1) := by decide +kernel
theorem dX8_count_45 : decode cX8_count 45 = .ok (.invokevirtual 296, 3) := by decide +kernel
theorem dX8_count_48 : decode cX8_count 48 = .ok (.ireturn, 1) := by decide +kernel
theorem dX8_count_49 : decode cX8_count 49 = .ok (.aload_n 0, 1) := by decide +kernel
theorem dX8_count_50 : decode cX8_count 50 = .ok (.getfield 25, 3) := by decide +kernel
theorem dX8_count_53 : decode cX8_count 53 = .ok (.getfield 299, 3) := by decide +kernel
theorem dX8_count_56 : decode cX8_count 56 = .ok (.ireturn, 1) := by decide +kernel
theorem dX8_count_57 : decode cX8_count 57 = .ok (.aload_n 0, 1) := by decide +kernel
theorem dX8_count_58 : decode cX8_count 58 = .ok (.getfield 25, 3) := by decide +kernel
theorem dX8_count_61 : decode cX8_count 61 = .ok (.getfield 302, 3) := by decide +kernel
theorem dX8_count_64 : decode cX8_count 64 = .ok (.ireturn, 1) := by decide +kernel
theorem dX8_count_65 : decode cX8_count 65 = .ok (.aload_n 0, 1) := by decide +kernel
theorem dX8_count_66 : decode cX8_count 66 = .ok (.getfield 25, 3) := by decide +kernel
theorem dX8_count_69 : decode cX8_count 69 = .ok (.getfield 162, 3) := by decide +kernel
theorem dX8_count_72 : decode cX8_count 72 = .ok (.ireturn, 1) := by decide +kernel
theorem dX8_count_73 : decode cX8_count 73 = .ok (.aload_n 0, 1) := by decide +kernel
theorem dX8_count_74 : decode cX8_count 74 = .ok (.getfield 25, 3) := by decide +kernel
theorem dX8_count_77 : decode cX8_count 77 = .ok (.invokevirtual 305, 3) := by decide +kernel
theorem dX8_count_80 : decode cX8_count 80 = .ok (.ireturn, 1) := by decide +kernel
theorem dX8_count_81 : decode cX8_count 81 = .ok (.aload_n 0, 1) := by decide +kernel
theorem dX8_count_82 : decode cX8_count 82 = .ok (.getfield 25, 3) := by decide +kernel
theorem dX8_count_85 : decode cX8_count 85 = .ok (.invokevirtual 308, 3) := by decide +kernel
theorem dX8_count_88 : decode cX8_count 88 = .ok (.ireturn, 1) := by decide +kernel
theorem dX8_count_89 : decode cX8_count 89 = .ok (.aload_n 0, 1) := by decide +kernel
theorem dX8_count_90 : decode cX8_count 90 = .ok (.getfield 18, 3) := by decide +kernel
theorem dX8_count_93 : decode cX8_count 93 = .ok (.getfield 145, 3) := by decide +kernel
theorem dX8_count_96 : decode cX8_count 96 = .ok (.ireturn, 1) := by decide +kernel
theorem dX8_count_97 : decode cX8_count 97 = .ok (.ldc 98, 2) := by decide +kernel
theorem dX8_count_99 : decode cX8_count 99 = .ok (.ireturn, 1) := by decide +kernel
theorem dX8_sheetsThere_0 : decode cX8_sheetsThere 0 = .ok (.iconst 0, 1) := by decide +kernel
theorem dX8_sheetsThere_1 : decode cX8_sheetsThere 1 = .ok (.istore_n 1, 1) := by decide +kernel
theorem dX8_sheetsThere_10 : decode cX8_sheetsThere 10 = .ok (.aload_n 0, 1) := by decide +kernel
theorem dX8_sheetsThere_11 : decode cX8_sheetsThere 11 = .ok (.getfield 11, 3) := by decide +kernel
theorem dX8_sheetsThere_14 : decode cX8_sheetsThere 14 = .ok (.iload_n 2, 1) := by decide +kernel
theorem dX8_sheetsThere_15 : decode cX8_sheetsThere 15 = .ok (.aaload, 1) := by decide +kernel
theorem dX8_sheetsThere_16 : decode cX8_sheetsThere 16 = .ok (.invokevirtual 110, 3) := by decide +kernel
theorem dX8_sheetsThere_19 : decode cX8_sheetsThere 19 = .ok (.ifCond .ne 6, 3) := by decide +kernel
theorem dX8_sheetsThere_2 : decode cX8_sheetsThere 2 = .ok (.iconst 0, 1) := by decide +kernel
theorem dX8_sheetsThere_25 : decode cX8_sheetsThere 25 = .ok (.iinc 2 1, 3) := by decide +kernel
theorem dX8_sheetsThere_28 : decode cX8_sheetsThere 28 = .ok (.goto (-24), 3) := by decide +kernel
theorem dX8_sheetsThere_3 : decode cX8_sheetsThere 3 = .ok (.istore_n 2, 1) := by decide +kernel
theorem dX8_sheetsThere_31 : decode cX8_sheetsThere 31 = .ok (.iload_n 1, 1) := by decide +kernel
theorem dX8_sheetsThere_32 : decode cX8_sheetsThere 32 = .ok (.ireturn, 1) := by decide +kernel
theorem dX8_sheetsThere_4 : decode cX8_sheetsThere 4 = .ok (.iload_n 2, 1) := by decide +kernel
theorem dX8_sheetsThere_5 : decode cX8_sheetsThere 5 = .ok (.bipush 8, 2) := by decide +kernel
theorem dX8_sheetsThere_7 : decode cX8_sheetsThere 7 = .ok (.if_icmp .ge 24, 3) := by decide +kernel
theorem jX8_city_X3 : ∀ w ∈ u_ws RX3 TX3 4, w ∈ wsX8_city := fun w h => List.mem_cons_of_mem _ (List.mem_append_left _ (List.mem_append_left _ (List.mem_append_right _ h)))
theorem jX8_city_X5 : ∀ w ∈ u_ws RX5 TX5 6, w ∈ wsX8_city := fun w h => List.mem_cons_of_mem _ (List.mem_append_left _ (List.mem_append_left _ (List.mem_append_left _ (List.mem_append_right _ h))))
theorem jX8_city_X8 : ∀ w ∈ u_ws RX8 TX8 13, w ∈ wsX8_city := fun w h => List.mem_cons_of_mem _ (List.mem_append_left _ (List.mem_append_left _ (List.mem_append_left _ (List.mem_append_left _ (List.mem_append_right _ h)))))
theorem jX8_count_X1 : ∀ w ∈ u_ws RX1 TX1 12, w ∈ wsX8_count := fun w h => List.mem_cons_of_mem _ (List.mem_append_left _ (List.mem_append_left _ (List.mem_append_right _ h)))
theorem jX8_count_X5 : ∀ w ∈ u_ws RX5 TX5 6, w ∈ wsX8_count := fun w h => List.mem_cons_of_mem _ (List.mem_append_left _ (List.mem_append_right _ h))
theorem jX8_count_X8 : ∀ w ∈ u_ws RX8 TX8 13, w ∈ wsX8_count := fun w h => List.mem_cons_of_mem _ (List.mem_append_left _ (List.mem_append_left _ (List.mem_append_left _ (List.mem_append_right _ h))))
theorem jX8_sheetsThere_X8 : ∀ w ∈ u_ws RX8 TX8 13, w ∈ wsX8_sheetsThere := fun w h => List.mem_cons_of_mem _ (List.mem_append_left _ (List.mem_append_right _ h))
theorem hdV_X1_fronts : yX1_fronts.cls = RX1 ∧ yX1_fronts.cls ≠ "java/lang/invoke/MethodHandle" ∧ yX1_fronts.cls ≠ "java/lang/invoke/VarHandle" ∧ (parseMethodDescriptor yX1_fronts.desc).map (fun d => d.parameters.length) = some 0 := by decide +kernel
theorem hdV_X1_mirrors : yX1_mirrors.cls = RX1 ∧ yX1_mirrors.cls ≠ "java/lang/invoke/MethodHandle" ∧ yX1_mirrors.cls ≠ "java/lang/invoke/VarHandle" ∧ (parseMethodDescriptor yX1_mirrors.desc).map (fun d => d.parameters.length) = some 0 := by decide +kernel
theorem hdV_X3_read : yX3_read.cls = RX3 ∧ yX3_read.cls ≠ "java/lang/invoke/MethodHandle" ∧ yX3_read.cls ≠ "java/lang/invoke/VarHandle" ∧ (parseMethodDescriptor yX3_read.desc).map (fun d => d.parameters.length) = some 0 := by decide +kernel
theorem hdV_X8_sheetsThere : yX8_sheetsThere.cls = RX8 ∧ yX8_sheetsThere.cls ≠ "java/lang/invoke/MethodHandle" ∧ yX8_sheetsThere.cls ≠ "java/lang/invoke/VarHandle" ∧ (parseMethodDescriptor yX8_sheetsThere.desc).map (fun d => d.parameters.length) = some 0 := by decide +kernel
set_option maxHeartbeats 4000000 in
set_option maxRecDepth 100000 in
theorem c_X8_sheetsThere (l : Launch) (D : va_G) (cI cZ cC cS : ClassId) (sq sz : Nat) (x : Nat) (xs : Nat) (xt : Nat) (xc : Nat) (xd : Nat) (xr : Nat) (xi : Nat) (xv : Nat) (xw : Nat) (xh : Nat) (xm : Nat) (xa : Nat) (gs : Nat → Option Nat) (sh0 : Nat) (it0 : Nat) (sh1 : Nat) (it1 : Nat) (sh2 : Nat) (it2 : Nat) (sh3 : Nat) (it3 : Nat) (sh4 : Nat) (it4 : Nat) (sh5 : Nat) (it5 : Nat) (sh6 : Nat) (it6 : Nat) (sh7 : Nat) (it7 : Nat) (hg0 : gs 0 = some sh0) (hg1 : gs 1 = some sh1) (hg2 : gs 2 = some sh2) (hg3 : gs 3 = some sh3) (hg4 : gs 4 = some sh4) (hg5 : gs 5 = some sh5) (hg6 : gs 6 = some sh6) (hg7 : gs 7 = some sh7) : mI l yX8_sheetsThere wsX8_sheetsThere 1 20 D (tyW cI cZ cC cS) sq [(x, .inr (8, [.ref xs, .ref xt, .ref xc, .ref xd, .ref xr, .ref xi, .ref xv, .ref xw, .ref xh, .ref xm, .ref xa, .int 0, .int 0])), (xs, .inl (cS, 8, .inr (.inr (.inr (.inr gs))))), (sh0, .inr (4, [.int (-1), .int 0, .ref it0])), (sh1, .inr (4, [.int (-1), .int 0, .ref it1])), (sh2, .inr (4, [.int (-1), .int 0, .ref it2])), (sh3, .inr (4, [.int (-1), .int 0, .ref it3])), (sh4, .inr (4, [.int (-1), .int 0, .ref it4])), (sh5, .inr (4, [.int (-1), .int 0, .ref it5])), (sh6, .inr (4, [.int (-1), .int 0, .ref it6])), (sh7, .inr (4, [.int (-1), .int 0, .ref it7]))] sz [.ref x] (fun r w => r = 0 ∧ w = []) := by
  refine b_metI (cc := cX8_sheetsThere) (maxL := 3) (ret := (some .int)) (by decide) rfl (Nat.le_of_ble_eq_true rfl) ?_
  intro p e s m below meth c ls A H X hsz hP hK hD hA hS hl
  have S : CallFix p m c cX8_sheetsThere 3 s ([.ref x] : List Value).toArray wsX8_sheetsThere RX8 := X.1
  have hl : lv_has ls 3 [(0, .ref x)] := hl
  have iX8 := jX8_sheetsThere_X8
  refine lv_iconst (v := 0) S.1 S.2.1 dX8_sheetsThere_0 (by decide) ?_
  refine lv_istore_n (lv' := [(1, .int 0), (0, .ref x)]) S.1 S.2.1 dX8_sheetsThere_1 rfl hl (by decide) rfl (fun ls hl => ?_)
  refine lv_iconst (v := 0) S.1 S.2.1 dX8_sheetsThere_2 (by decide) ?_
  refine lv_istore_n (lv' := [(2, .int 0), (1, .int 0), (0, .ref x)]) S.1 S.2.1 dX8_sheetsThere_3 rfl hl (by decide) rfl (fun ls hl => ?_)
  refine lv_iload_n S.1 S.2.1 dX8_sheetsThere_4 rfl (lv_at hl 0 rfl) ?_
  refine lv_bipush (v := 8) S.1 S.2.1 dX8_sheetsThere_5 (by decide) ?_
  refine lv_icmp_ge (tgt := 31) S.1 S.2.1 dX8_sheetsThere_7 (by decide) (fun c_1 => absurd c_1 (by decide)) (fun c_1 => ?_)
  refine lv_aload_n S.1 S.2.1 dX8_sheetsThere_10 rfl (lv_at hl 2 rfl) ?_
  refine b_get (v := .ref xs) S iX8 hK hP 0 rfl rfl 0 (by decide) (by decide +kernel) rfl dX8_sheetsThere_11 ?_
  refine lv_iload_n S.1 S.2.1 dX8_sheetsThere_14 rfl (lv_at hl 0 rfl) ?_
  refine b_aald S.1 S.2.1 hK.1 hP 1 3 rfl rfl (by unfold vp_in; decide) hg0 dX8_sheetsThere_15 ?_
  refine b_ai (wr := [(x, .inr (8, [.ref xs, .ref xt, .ref xc, .ref xd, .ref xr, .ref xi, .ref xv, .ref xw, .ref xh, .ref xm, .ref xa, .int 0, .int 0])), (xs, .inl (cS, 8, .inr (.inr (.inr (.inr gs))))), (sh1, .inr (4, [.int (-1), .int 0, .ref it1])), (sh2, .inr (4, [.int (-1), .int 0, .ref it2])), (sh3, .inr (4, [.int (-1), .int 0, .ref it3])), (sh4, .inr (4, [.int (-1), .int 0, .ref it4])), (sh5, .inr (4, [.int (-1), .int 0, .ref it5])), (sh6, .inr (4, [.int (-1), .int 0, .ref it6])), (sh7, .inr (4, [.int (-1), .int 0, .ref it7]))]) (b_runV (q0 := 2) (ci := 4) (As := []) (c_X4_isMissing l D cI cZ cC cS sq H.size sh0 it0) S gX8_sheetsThere_X4_isMissing rfl hdV_X4_isMissing ⟨Nat.le_of_ble_eq_true rfl, Nat.le_of_ble_eq_true rfl⟩ ⟨Nat.le_of_ble_eq_true rfl, Nat.le_of_ble_eq_true rfl⟩ hK hP hD rfl rfl [2] rfl (by decide) rfl hl.1 rfl (Nat.le_of_ble_eq_true rfl) dX8_sheetsThere_16) hP hD hS hA [2] [0, 1, 3, 4, 5, 6, 7, 8, 9] rfl rfl (by decide) (by decide) (fun r_2 w_3 H locs hw_4 hP hD hS => ?_)
  obtain ⟨rfl, rfl⟩ := hw_4
  have hP : va_P D vwCl [(x, .inr (8, [.ref xs, .ref xt, .ref xc, .ref xd, .ref xr, .ref xi, .ref xv, .ref xw, .ref xh, .ref xm, .ref xa, .int 0, .int 0])), (xs, .inl (cS, 8, .inr (.inr (.inr (.inr gs))))), (sh1, .inr (4, [.int (-1), .int 0, .ref it1])), (sh2, .inr (4, [.int (-1), .int 0, .ref it2])), (sh3, .inr (4, [.int (-1), .int 0, .ref it3])), (sh4, .inr (4, [.int (-1), .int 0, .ref it4])), (sh5, .inr (4, [.int (-1), .int 0, .ref it5])), (sh6, .inr (4, [.int (-1), .int 0, .ref it6])), (sh7, .inr (4, [.int (-1), .int 0, .ref it7])), (sh0, .inr (4, [.int (-1), .int 0, .ref it0]))] H := hP
  have hD : va_D A [(x, .inr (8, [.ref xs, .ref xt, .ref xc, .ref xd, .ref xr, .ref xi, .ref xv, .ref xw, .ref xh, .ref xm, .ref xa, .int 0, .int 0])), (xs, .inl (cS, 8, .inr (.inr (.inr (.inr gs))))), (sh1, .inr (4, [.int (-1), .int 0, .ref it1])), (sh2, .inr (4, [.int (-1), .int 0, .ref it2])), (sh3, .inr (4, [.int (-1), .int 0, .ref it3])), (sh4, .inr (4, [.int (-1), .int 0, .ref it4])), (sh5, .inr (4, [.int (-1), .int 0, .ref it5])), (sh6, .inr (4, [.int (-1), .int 0, .ref it6])), (sh7, .inr (4, [.int (-1), .int 0, .ref it7])), (sh0, .inr (4, [.int (-1), .int 0, .ref it0]))] := hD
  refine lv_if_ne (tgt := 25) S.1 S.2.1 dX8_sheetsThere_19 (by decide) (fun c_5 => ?_) (fun c_5 => absurd c_5 (by decide))
  refine lv_iinc (v := 1) (lv' := [(2, .int 1), (1, .int 0), (0, .ref x)]) S.1 S.2.1 dX8_sheetsThere_25 hl (k := 0) rfl (by decide) (by decide) rfl (fun ls hl => ?_)
  refine lv_goto (tgt := 4) S.1 S.2.1 dX8_sheetsThere_28 (by decide) ?_
  refine lv_iload_n S.1 S.2.1 dX8_sheetsThere_4 rfl (lv_at hl 0 rfl) ?_
  refine lv_bipush (v := 8) S.1 S.2.1 dX8_sheetsThere_5 (by decide) ?_
  refine lv_icmp_ge (tgt := 31) S.1 S.2.1 dX8_sheetsThere_7 (by decide) (fun c_6 => absurd c_6 (by decide)) (fun c_6 => ?_)
  refine lv_aload_n S.1 S.2.1 dX8_sheetsThere_10 rfl (lv_at hl 2 rfl) ?_
  refine b_get (v := .ref xs) S iX8 hK hP 0 rfl rfl 0 (by decide) (by decide +kernel) rfl dX8_sheetsThere_11 ?_
  refine lv_iload_n S.1 S.2.1 dX8_sheetsThere_14 rfl (lv_at hl 0 rfl) ?_
  refine b_aald S.1 S.2.1 hK.1 hP 1 3 rfl rfl (by unfold vp_in; decide) hg1 dX8_sheetsThere_15 ?_
  refine b_ai (wr := [(x, .inr (8, [.ref xs, .ref xt, .ref xc, .ref xd, .ref xr, .ref xi, .ref xv, .ref xw, .ref xh, .ref xm, .ref xa, .int 0, .int 0])), (xs, .inl (cS, 8, .inr (.inr (.inr (.inr gs))))), (sh2, .inr (4, [.int (-1), .int 0, .ref it2])), (sh3, .inr (4, [.int (-1), .int 0, .ref it3])), (sh4, .inr (4, [.int (-1), .int 0, .ref it4])), (sh5, .inr (4, [.int (-1), .int 0, .ref it5])), (sh6, .inr (4, [.int (-1), .int 0, .ref it6])), (sh7, .inr (4, [.int (-1), .int 0, .ref it7])), (sh0, .inr (4, [.int (-1), .int 0, .ref it0]))]) (b_runV (q0 := 2) (ci := 4) (As := []) (c_X4_isMissing l D cI cZ cC cS sq H.size sh1 it1) S gX8_sheetsThere_X4_isMissing rfl hdV_X4_isMissing ⟨Nat.le_of_ble_eq_true rfl, Nat.le_of_ble_eq_true rfl⟩ ⟨Nat.le_of_ble_eq_true rfl, Nat.le_of_ble_eq_true rfl⟩ hK hP hD rfl rfl [2] rfl (by decide) rfl hl.1 rfl (Nat.le_of_ble_eq_true rfl) dX8_sheetsThere_16) hP hD hS hA [2] [0, 1, 3, 4, 5, 6, 7, 8, 9] rfl rfl (by decide) (by decide) (fun r_7 w_8 H locs hw_9 hP hD hS => ?_)
  obtain ⟨rfl, rfl⟩ := hw_9
  have hP : va_P D vwCl [(x, .inr (8, [.ref xs, .ref xt, .ref xc, .ref xd, .ref xr, .ref xi, .ref xv, .ref xw, .ref xh, .ref xm, .ref xa, .int 0, .int 0])), (xs, .inl (cS, 8, .inr (.inr (.inr (.inr gs))))), (sh2, .inr (4, [.int (-1), .int 0, .ref it2])), (sh3, .inr (4, [.int (-1), .int 0, .ref it3])), (sh4, .inr (4, [.int (-1), .int 0, .ref it4])), (sh5, .inr (4, [.int (-1), .int 0, .ref it5])), (sh6, .inr (4, [.int (-1), .int 0, .ref it6])), (sh7, .inr (4, [.int (-1), .int 0, .ref it7])), (sh0, .inr (4, [.int (-1), .int 0, .ref it0])), (sh1, .inr (4, [.int (-1), .int 0, .ref it1]))] H := hP
  have hD : va_D A [(x, .inr (8, [.ref xs, .ref xt, .ref xc, .ref xd, .ref xr, .ref xi, .ref xv, .ref xw, .ref xh, .ref xm, .ref xa, .int 0, .int 0])), (xs, .inl (cS, 8, .inr (.inr (.inr (.inr gs))))), (sh2, .inr (4, [.int (-1), .int 0, .ref it2])), (sh3, .inr (4, [.int (-1), .int 0, .ref it3])), (sh4, .inr (4, [.int (-1), .int 0, .ref it4])), (sh5, .inr (4, [.int (-1), .int 0, .ref it5])), (sh6, .inr (4, [.int (-1), .int 0, .ref it6])), (sh7, .inr (4, [.int (-1), .int 0, .ref it7])), (sh0, .inr (4, [.int (-1), .int 0, .ref it0])), (sh1, .inr (4, [.int (-1), .int 0, .ref it1]))] := hD
  refine lv_if_ne (tgt := 25) S.1 S.2.1 dX8_sheetsThere_19 (by decide) (fun c_10 => ?_) (fun c_10 => absurd c_10 (by decide))
  refine lv_iinc (v := 2) (lv' := [(2, .int 2), (1, .int 0), (0, .ref x)]) S.1 S.2.1 dX8_sheetsThere_25 hl (k := 0) rfl (by decide) (by decide) rfl (fun ls hl => ?_)
  refine lv_goto (tgt := 4) S.1 S.2.1 dX8_sheetsThere_28 (by decide) ?_
  refine lv_iload_n S.1 S.2.1 dX8_sheetsThere_4 rfl (lv_at hl 0 rfl) ?_
  refine lv_bipush (v := 8) S.1 S.2.1 dX8_sheetsThere_5 (by decide) ?_
  refine lv_icmp_ge (tgt := 31) S.1 S.2.1 dX8_sheetsThere_7 (by decide) (fun c_11 => absurd c_11 (by decide)) (fun c_11 => ?_)
  refine lv_aload_n S.1 S.2.1 dX8_sheetsThere_10 rfl (lv_at hl 2 rfl) ?_
  refine b_get (v := .ref xs) S iX8 hK hP 0 rfl rfl 0 (by decide) (by decide +kernel) rfl dX8_sheetsThere_11 ?_
  refine lv_iload_n S.1 S.2.1 dX8_sheetsThere_14 rfl (lv_at hl 0 rfl) ?_
  refine b_aald S.1 S.2.1 hK.1 hP 1 3 rfl rfl (by unfold vp_in; decide) hg2 dX8_sheetsThere_15 ?_
  refine b_ai (wr := [(x, .inr (8, [.ref xs, .ref xt, .ref xc, .ref xd, .ref xr, .ref xi, .ref xv, .ref xw, .ref xh, .ref xm, .ref xa, .int 0, .int 0])), (xs, .inl (cS, 8, .inr (.inr (.inr (.inr gs))))), (sh3, .inr (4, [.int (-1), .int 0, .ref it3])), (sh4, .inr (4, [.int (-1), .int 0, .ref it4])), (sh5, .inr (4, [.int (-1), .int 0, .ref it5])), (sh6, .inr (4, [.int (-1), .int 0, .ref it6])), (sh7, .inr (4, [.int (-1), .int 0, .ref it7])), (sh0, .inr (4, [.int (-1), .int 0, .ref it0])), (sh1, .inr (4, [.int (-1), .int 0, .ref it1]))]) (b_runV (q0 := 2) (ci := 4) (As := []) (c_X4_isMissing l D cI cZ cC cS sq H.size sh2 it2) S gX8_sheetsThere_X4_isMissing rfl hdV_X4_isMissing ⟨Nat.le_of_ble_eq_true rfl, Nat.le_of_ble_eq_true rfl⟩ ⟨Nat.le_of_ble_eq_true rfl, Nat.le_of_ble_eq_true rfl⟩ hK hP hD rfl rfl [2] rfl (by decide) rfl hl.1 rfl (Nat.le_of_ble_eq_true rfl) dX8_sheetsThere_16) hP hD hS hA [2] [0, 1, 3, 4, 5, 6, 7, 8, 9] rfl rfl (by decide) (by decide) (fun r_12 w_13 H locs hw_14 hP hD hS => ?_)
  obtain ⟨rfl, rfl⟩ := hw_14
  have hP : va_P D vwCl [(x, .inr (8, [.ref xs, .ref xt, .ref xc, .ref xd, .ref xr, .ref xi, .ref xv, .ref xw, .ref xh, .ref xm, .ref xa, .int 0, .int 0])), (xs, .inl (cS, 8, .inr (.inr (.inr (.inr gs))))), (sh3, .inr (4, [.int (-1), .int 0, .ref it3])), (sh4, .inr (4, [.int (-1), .int 0, .ref it4])), (sh5, .inr (4, [.int (-1), .int 0, .ref it5])), (sh6, .inr (4, [.int (-1), .int 0, .ref it6])), (sh7, .inr (4, [.int (-1), .int 0, .ref it7])), (sh0, .inr (4, [.int (-1), .int 0, .ref it0])), (sh1, .inr (4, [.int (-1), .int 0, .ref it1])), (sh2, .inr (4, [.int (-1), .int 0, .ref it2]))] H := hP
  have hD : va_D A [(x, .inr (8, [.ref xs, .ref xt, .ref xc, .ref xd, .ref xr, .ref xi, .ref xv, .ref xw, .ref xh, .ref xm, .ref xa, .int 0, .int 0])), (xs, .inl (cS, 8, .inr (.inr (.inr (.inr gs))))), (sh3, .inr (4, [.int (-1), .int 0, .ref it3])), (sh4, .inr (4, [.int (-1), .int 0, .ref it4])), (sh5, .inr (4, [.int (-1), .int 0, .ref it5])), (sh6, .inr (4, [.int (-1), .int 0, .ref it6])), (sh7, .inr (4, [.int (-1), .int 0, .ref it7])), (sh0, .inr (4, [.int (-1), .int 0, .ref it0])), (sh1, .inr (4, [.int (-1), .int 0, .ref it1])), (sh2, .inr (4, [.int (-1), .int 0, .ref it2]))] := hD
  refine lv_if_ne (tgt := 25) S.1 S.2.1 dX8_sheetsThere_19 (by decide) (fun c_15 => ?_) (fun c_15 => absurd c_15 (by decide))
  refine lv_iinc (v := 3) (lv' := [(2, .int 3), (1, .int 0), (0, .ref x)]) S.1 S.2.1 dX8_sheetsThere_25 hl (k := 0) rfl (by decide) (by decide) rfl (fun ls hl => ?_)
  refine lv_goto (tgt := 4) S.1 S.2.1 dX8_sheetsThere_28 (by decide) ?_
  refine lv_iload_n S.1 S.2.1 dX8_sheetsThere_4 rfl (lv_at hl 0 rfl) ?_
  refine lv_bipush (v := 8) S.1 S.2.1 dX8_sheetsThere_5 (by decide) ?_
  refine lv_icmp_ge (tgt := 31) S.1 S.2.1 dX8_sheetsThere_7 (by decide) (fun c_16 => absurd c_16 (by decide)) (fun c_16 => ?_)
  refine lv_aload_n S.1 S.2.1 dX8_sheetsThere_10 rfl (lv_at hl 2 rfl) ?_
  refine b_get (v := .ref xs) S iX8 hK hP 0 rfl rfl 0 (by decide) (by decide +kernel) rfl dX8_sheetsThere_11 ?_
  refine lv_iload_n S.1 S.2.1 dX8_sheetsThere_14 rfl (lv_at hl 0 rfl) ?_
  refine b_aald S.1 S.2.1 hK.1 hP 1 3 rfl rfl (by unfold vp_in; decide) hg3 dX8_sheetsThere_15 ?_
  refine b_ai (wr := [(x, .inr (8, [.ref xs, .ref xt, .ref xc, .ref xd, .ref xr, .ref xi, .ref xv, .ref xw, .ref xh, .ref xm, .ref xa, .int 0, .int 0])), (xs, .inl (cS, 8, .inr (.inr (.inr (.inr gs))))), (sh4, .inr (4, [.int (-1), .int 0, .ref it4])), (sh5, .inr (4, [.int (-1), .int 0, .ref it5])), (sh6, .inr (4, [.int (-1), .int 0, .ref it6])), (sh7, .inr (4, [.int (-1), .int 0, .ref it7])), (sh0, .inr (4, [.int (-1), .int 0, .ref it0])), (sh1, .inr (4, [.int (-1), .int 0, .ref it1])), (sh2, .inr (4, [.int (-1), .int 0, .ref it2]))]) (b_runV (q0 := 2) (ci := 4) (As := []) (c_X4_isMissing l D cI cZ cC cS sq H.size sh3 it3) S gX8_sheetsThere_X4_isMissing rfl hdV_X4_isMissing ⟨Nat.le_of_ble_eq_true rfl, Nat.le_of_ble_eq_true rfl⟩ ⟨Nat.le_of_ble_eq_true rfl, Nat.le_of_ble_eq_true rfl⟩ hK hP hD rfl rfl [2] rfl (by decide) rfl hl.1 rfl (Nat.le_of_ble_eq_true rfl) dX8_sheetsThere_16) hP hD hS hA [2] [0, 1, 3, 4, 5, 6, 7, 8, 9] rfl rfl (by decide) (by decide) (fun r_17 w_18 H locs hw_19 hP hD hS => ?_)
  obtain ⟨rfl, rfl⟩ := hw_19
  have hP : va_P D vwCl [(x, .inr (8, [.ref xs, .ref xt, .ref xc, .ref xd, .ref xr, .ref xi, .ref xv, .ref xw, .ref xh, .ref xm, .ref xa, .int 0, .int 0])), (xs, .inl (cS, 8, .inr (.inr (.inr (.inr gs))))), (sh4, .inr (4, [.int (-1), .int 0, .ref it4])), (sh5, .inr (4, [.int (-1), .int 0, .ref it5])), (sh6, .inr (4, [.int (-1), .int 0, .ref it6])), (sh7, .inr (4, [.int (-1), .int 0, .ref it7])), (sh0, .inr (4, [.int (-1), .int 0, .ref it0])), (sh1, .inr (4, [.int (-1), .int 0, .ref it1])), (sh2, .inr (4, [.int (-1), .int 0, .ref it2])), (sh3, .inr (4, [.int (-1), .int 0, .ref it3]))] H := hP
  have hD : va_D A [(x, .inr (8, [.ref xs, .ref xt, .ref xc, .ref xd, .ref xr, .ref xi, .ref xv, .ref xw, .ref xh, .ref xm, .ref xa, .int 0, .int 0])), (xs, .inl (cS, 8, .inr (.inr (.inr (.inr gs))))), (sh4, .inr (4, [.int (-1), .int 0, .ref it4])), (sh5, .inr (4, [.int (-1), .int 0, .ref it5])), (sh6, .inr (4, [.int (-1), .int 0, .ref it6])), (sh7, .inr (4, [.int (-1), .int 0, .ref it7])), (sh0, .inr (4, [.int (-1), .int 0, .ref it0])), (sh1, .inr (4, [.int (-1), .int 0, .ref it1])), (sh2, .inr (4, [.int (-1), .int 0, .ref it2])), (sh3, .inr (4, [.int (-1), .int 0, .ref it3]))] := hD
  refine lv_if_ne (tgt := 25) S.1 S.2.1 dX8_sheetsThere_19 (by decide) (fun c_20 => ?_) (fun c_20 => absurd c_20 (by decide))
  refine lv_iinc (v := 4) (lv' := [(2, .int 4), (1, .int 0), (0, .ref x)]) S.1 S.2.1 dX8_sheetsThere_25 hl (k := 0) rfl (by decide) (by decide) rfl (fun ls hl => ?_)
  refine lv_goto (tgt := 4) S.1 S.2.1 dX8_sheetsThere_28 (by decide) ?_
  refine lv_iload_n S.1 S.2.1 dX8_sheetsThere_4 rfl (lv_at hl 0 rfl) ?_
  refine lv_bipush (v := 8) S.1 S.2.1 dX8_sheetsThere_5 (by decide) ?_
  refine lv_icmp_ge (tgt := 31) S.1 S.2.1 dX8_sheetsThere_7 (by decide) (fun c_21 => absurd c_21 (by decide)) (fun c_21 => ?_)
  refine lv_aload_n S.1 S.2.1 dX8_sheetsThere_10 rfl (lv_at hl 2 rfl) ?_
  refine b_get (v := .ref xs) S iX8 hK hP 0 rfl rfl 0 (by decide) (by decide +kernel) rfl dX8_sheetsThere_11 ?_
  refine lv_iload_n S.1 S.2.1 dX8_sheetsThere_14 rfl (lv_at hl 0 rfl) ?_
  refine b_aald S.1 S.2.1 hK.1 hP 1 3 rfl rfl (by unfold vp_in; decide) hg4 dX8_sheetsThere_15 ?_
  refine b_ai (wr := [(x, .inr (8, [.ref xs, .ref xt, .ref xc, .ref xd, .ref xr, .ref xi, .ref xv, .ref xw, .ref xh, .ref xm, .ref xa, .int 0, .int 0])), (xs, .inl (cS, 8, .inr (.inr (.inr (.inr gs))))), (sh5, .inr (4, [.int (-1), .int 0, .ref it5])), (sh6, .inr (4, [.int (-1), .int 0, .ref it6])), (sh7, .inr (4, [.int (-1), .int 0, .ref it7])), (sh0, .inr (4, [.int (-1), .int 0, .ref it0])), (sh1, .inr (4, [.int (-1), .int 0, .ref it1])), (sh2, .inr (4, [.int (-1), .int 0, .ref it2])), (sh3, .inr (4, [.int (-1), .int 0, .ref it3]))]) (b_runV (q0 := 2) (ci := 4) (As := []) (c_X4_isMissing l D cI cZ cC cS sq H.size sh4 it4) S gX8_sheetsThere_X4_isMissing rfl hdV_X4_isMissing ⟨Nat.le_of_ble_eq_true rfl, Nat.le_of_ble_eq_true rfl⟩ ⟨Nat.le_of_ble_eq_true rfl, Nat.le_of_ble_eq_true rfl⟩ hK hP hD rfl rfl [2] rfl (by decide) rfl hl.1 rfl (Nat.le_of_ble_eq_true rfl) dX8_sheetsThere_16) hP hD hS hA [2] [0, 1, 3, 4, 5, 6, 7, 8, 9] rfl rfl (by decide) (by decide) (fun r_22 w_23 H locs hw_24 hP hD hS => ?_)
  obtain ⟨rfl, rfl⟩ := hw_24
  have hP : va_P D vwCl [(x, .inr (8, [.ref xs, .ref xt, .ref xc, .ref xd, .ref xr, .ref xi, .ref xv, .ref xw, .ref xh, .ref xm, .ref xa, .int 0, .int 0])), (xs, .inl (cS, 8, .inr (.inr (.inr (.inr gs))))), (sh5, .inr (4, [.int (-1), .int 0, .ref it5])), (sh6, .inr (4, [.int (-1), .int 0, .ref it6])), (sh7, .inr (4, [.int (-1), .int 0, .ref it7])), (sh0, .inr (4, [.int (-1), .int 0, .ref it0])), (sh1, .inr (4, [.int (-1), .int 0, .ref it1])), (sh2, .inr (4, [.int (-1), .int 0, .ref it2])), (sh3, .inr (4, [.int (-1), .int 0, .ref it3])), (sh4, .inr (4, [.int (-1), .int 0, .ref it4]))] H := hP
  have hD : va_D A [(x, .inr (8, [.ref xs, .ref xt, .ref xc, .ref xd, .ref xr, .ref xi, .ref xv, .ref xw, .ref xh, .ref xm, .ref xa, .int 0, .int 0])), (xs, .inl (cS, 8, .inr (.inr (.inr (.inr gs))))), (sh5, .inr (4, [.int (-1), .int 0, .ref it5])), (sh6, .inr (4, [.int (-1), .int 0, .ref it6])), (sh7, .inr (4, [.int (-1), .int 0, .ref it7])), (sh0, .inr (4, [.int (-1), .int 0, .ref it0])), (sh1, .inr (4, [.int (-1), .int 0, .ref it1])), (sh2, .inr (4, [.int (-1), .int 0, .ref it2])), (sh3, .inr (4, [.int (-1), .int 0, .ref it3])), (sh4, .inr (4, [.int (-1), .int 0, .ref it4]))] := hD
  refine lv_if_ne (tgt := 25) S.1 S.2.1 dX8_sheetsThere_19 (by decide) (fun c_25 => ?_) (fun c_25 => absurd c_25 (by decide))
  refine lv_iinc (v := 5) (lv' := [(2, .int 5), (1, .int 0), (0, .ref x)]) S.1 S.2.1 dX8_sheetsThere_25 hl (k := 0) rfl (by decide) (by decide) rfl (fun ls hl => ?_)
  refine lv_goto (tgt := 4) S.1 S.2.1 dX8_sheetsThere_28 (by decide) ?_
  refine lv_iload_n S.1 S.2.1 dX8_sheetsThere_4 rfl (lv_at hl 0 rfl) ?_
  refine lv_bipush (v := 8) S.1 S.2.1 dX8_sheetsThere_5 (by decide) ?_
  refine lv_icmp_ge (tgt := 31) S.1 S.2.1 dX8_sheetsThere_7 (by decide) (fun c_26 => absurd c_26 (by decide)) (fun c_26 => ?_)
  refine lv_aload_n S.1 S.2.1 dX8_sheetsThere_10 rfl (lv_at hl 2 rfl) ?_
  refine b_get (v := .ref xs) S iX8 hK hP 0 rfl rfl 0 (by decide) (by decide +kernel) rfl dX8_sheetsThere_11 ?_
  refine lv_iload_n S.1 S.2.1 dX8_sheetsThere_14 rfl (lv_at hl 0 rfl) ?_
  refine b_aald S.1 S.2.1 hK.1 hP 1 3 rfl rfl (by unfold vp_in; decide) hg5 dX8_sheetsThere_15 ?_
  refine b_ai (wr := [(x, .inr (8, [.ref xs, .ref xt, .ref xc, .ref xd, .ref xr, .ref xi, .ref xv, .ref xw, .ref xh, .ref xm, .ref xa, .int 0, .int 0])), (xs, .inl (cS, 8, .inr (.inr (.inr (.inr gs))))), (sh6, .inr (4, [.int (-1), .int 0, .ref it6])), (sh7, .inr (4, [.int (-1), .int 0, .ref it7])), (sh0, .inr (4, [.int (-1), .int 0, .ref it0])), (sh1, .inr (4, [.int (-1), .int 0, .ref it1])), (sh2, .inr (4, [.int (-1), .int 0, .ref it2])), (sh3, .inr (4, [.int (-1), .int 0, .ref it3])), (sh4, .inr (4, [.int (-1), .int 0, .ref it4]))]) (b_runV (q0 := 2) (ci := 4) (As := []) (c_X4_isMissing l D cI cZ cC cS sq H.size sh5 it5) S gX8_sheetsThere_X4_isMissing rfl hdV_X4_isMissing ⟨Nat.le_of_ble_eq_true rfl, Nat.le_of_ble_eq_true rfl⟩ ⟨Nat.le_of_ble_eq_true rfl, Nat.le_of_ble_eq_true rfl⟩ hK hP hD rfl rfl [2] rfl (by decide) rfl hl.1 rfl (Nat.le_of_ble_eq_true rfl) dX8_sheetsThere_16) hP hD hS hA [2] [0, 1, 3, 4, 5, 6, 7, 8, 9] rfl rfl (by decide) (by decide) (fun r_27 w_28 H locs hw_29 hP hD hS => ?_)
  obtain ⟨rfl, rfl⟩ := hw_29
  have hP : va_P D vwCl [(x, .inr (8, [.ref xs, .ref xt, .ref xc, .ref xd, .ref xr, .ref xi, .ref xv, .ref xw, .ref xh, .ref xm, .ref xa, .int 0, .int 0])), (xs, .inl (cS, 8, .inr (.inr (.inr (.inr gs))))), (sh6, .inr (4, [.int (-1), .int 0, .ref it6])), (sh7, .inr (4, [.int (-1), .int 0, .ref it7])), (sh0, .inr (4, [.int (-1), .int 0, .ref it0])), (sh1, .inr (4, [.int (-1), .int 0, .ref it1])), (sh2, .inr (4, [.int (-1), .int 0, .ref it2])), (sh3, .inr (4, [.int (-1), .int 0, .ref it3])), (sh4, .inr (4, [.int (-1), .int 0, .ref it4])), (sh5, .inr (4, [.int (-1), .int 0, .ref it5]))] H := hP
  have hD : va_D A [(x, .inr (8, [.ref xs, .ref xt, .ref xc, .ref xd, .ref xr, .ref xi, .ref xv, .ref xw, .ref xh, .ref xm, .ref xa, .int 0, .int 0])), (xs, .inl (cS, 8, .inr (.inr (.inr (.inr gs))))), (sh6, .inr (4, [.int (-1), .int 0, .ref it6])), (sh7, .inr (4, [.int (-1), .int 0, .ref it7])), (sh0, .inr (4, [.int (-1), .int 0, .ref it0])), (sh1, .inr (4, [.int (-1), .int 0, .ref it1])), (sh2, .inr (4, [.int (-1), .int 0, .ref it2])), (sh3, .inr (4, [.int (-1), .int 0, .ref it3])), (sh4, .inr (4, [.int (-1), .int 0, .ref it4])), (sh5, .inr (4, [.int (-1), .int 0, .ref it5]))] := hD
  refine lv_if_ne (tgt := 25) S.1 S.2.1 dX8_sheetsThere_19 (by decide) (fun c_30 => ?_) (fun c_30 => absurd c_30 (by decide))
  refine lv_iinc (v := 6) (lv' := [(2, .int 6), (1, .int 0), (0, .ref x)]) S.1 S.2.1 dX8_sheetsThere_25 hl (k := 0) rfl (by decide) (by decide) rfl (fun ls hl => ?_)
  refine lv_goto (tgt := 4) S.1 S.2.1 dX8_sheetsThere_28 (by decide) ?_
  refine lv_iload_n S.1 S.2.1 dX8_sheetsThere_4 rfl (lv_at hl 0 rfl) ?_
  refine lv_bipush (v := 8) S.1 S.2.1 dX8_sheetsThere_5 (by decide) ?_
  refine lv_icmp_ge (tgt := 31) S.1 S.2.1 dX8_sheetsThere_7 (by decide) (fun c_31 => absurd c_31 (by decide)) (fun c_31 => ?_)
  refine lv_aload_n S.1 S.2.1 dX8_sheetsThere_10 rfl (lv_at hl 2 rfl) ?_
  refine b_get (v := .ref xs) S iX8 hK hP 0 rfl rfl 0 (by decide) (by decide +kernel) rfl dX8_sheetsThere_11 ?_
  refine lv_iload_n S.1 S.2.1 dX8_sheetsThere_14 rfl (lv_at hl 0 rfl) ?_
  refine b_aald S.1 S.2.1 hK.1 hP 1 3 rfl rfl (by unfold vp_in; decide) hg6 dX8_sheetsThere_15 ?_
  refine b_ai (wr := [(x, .inr (8, [.ref xs, .ref xt, .ref xc, .ref xd, .ref xr, .ref xi, .ref xv, .ref xw, .ref xh, .ref xm, .ref xa, .int 0, .int 0])), (xs, .inl (cS, 8, .inr (.inr (.inr (.inr gs))))), (sh7, .inr (4, [.int (-1), .int 0, .ref it7])), (sh0, .inr (4, [.int (-1), .int 0, .ref it0])), (sh1, .inr (4, [.int (-1), .int 0, .ref it1])), (sh2, .inr (4, [.int (-1), .int 0, .ref it2])), (sh3, .inr (4, [.int (-1), .int 0, .ref it3])), (sh4, .inr (4, [.int (-1), .int 0, .ref it4])), (sh5, .inr (4, [.int (-1), .int 0, .ref it5]))]) (b_runV (q0 := 2) (ci := 4) (As := []) (c_X4_isMissing l D cI cZ cC cS sq H.size sh6 it6) S gX8_sheetsThere_X4_isMissing rfl hdV_X4_isMissing ⟨Nat.le_of_ble_eq_true rfl, Nat.le_of_ble_eq_true rfl⟩ ⟨Nat.le_of_ble_eq_true rfl, Nat.le_of_ble_eq_true rfl⟩ hK hP hD rfl rfl [2] rfl (by decide) rfl hl.1 rfl (Nat.le_of_ble_eq_true rfl) dX8_sheetsThere_16) hP hD hS hA [2] [0, 1, 3, 4, 5, 6, 7, 8, 9] rfl rfl (by decide) (by decide) (fun r_32 w_33 H locs hw_34 hP hD hS => ?_)
  obtain ⟨rfl, rfl⟩ := hw_34
  have hP : va_P D vwCl [(x, .inr (8, [.ref xs, .ref xt, .ref xc, .ref xd, .ref xr, .ref xi, .ref xv, .ref xw, .ref xh, .ref xm, .ref xa, .int 0, .int 0])), (xs, .inl (cS, 8, .inr (.inr (.inr (.inr gs))))), (sh7, .inr (4, [.int (-1), .int 0, .ref it7])), (sh0, .inr (4, [.int (-1), .int 0, .ref it0])), (sh1, .inr (4, [.int (-1), .int 0, .ref it1])), (sh2, .inr (4, [.int (-1), .int 0, .ref it2])), (sh3, .inr (4, [.int (-1), .int 0, .ref it3])), (sh4, .inr (4, [.int (-1), .int 0, .ref it4])), (sh5, .inr (4, [.int (-1), .int 0, .ref it5])), (sh6, .inr (4, [.int (-1), .int 0, .ref it6]))] H := hP
  have hD : va_D A [(x, .inr (8, [.ref xs, .ref xt, .ref xc, .ref xd, .ref xr, .ref xi, .ref xv, .ref xw, .ref xh, .ref xm, .ref xa, .int 0, .int 0])), (xs, .inl (cS, 8, .inr (.inr (.inr (.inr gs))))), (sh7, .inr (4, [.int (-1), .int 0, .ref it7])), (sh0, .inr (4, [.int (-1), .int 0, .ref it0])), (sh1, .inr (4, [.int (-1), .int 0, .ref it1])), (sh2, .inr (4, [.int (-1), .int 0, .ref it2])), (sh3, .inr (4, [.int (-1), .int 0, .ref it3])), (sh4, .inr (4, [.int (-1), .int 0, .ref it4])), (sh5, .inr (4, [.int (-1), .int 0, .ref it5])), (sh6, .inr (4, [.int (-1), .int 0, .ref it6]))] := hD
  refine lv_if_ne (tgt := 25) S.1 S.2.1 dX8_sheetsThere_19 (by decide) (fun c_35 => ?_) (fun c_35 => absurd c_35 (by decide))
  refine lv_iinc (v := 7) (lv' := [(2, .int 7), (1, .int 0), (0, .ref x)]) S.1 S.2.1 dX8_sheetsThere_25 hl (k := 0) rfl (by decide) (by decide) rfl (fun ls hl => ?_)
  refine lv_goto (tgt := 4) S.1 S.2.1 dX8_sheetsThere_28 (by decide) ?_
  refine lv_iload_n S.1 S.2.1 dX8_sheetsThere_4 rfl (lv_at hl 0 rfl) ?_
  refine lv_bipush (v := 8) S.1 S.2.1 dX8_sheetsThere_5 (by decide) ?_
  refine lv_icmp_ge (tgt := 31) S.1 S.2.1 dX8_sheetsThere_7 (by decide) (fun c_36 => absurd c_36 (by decide)) (fun c_36 => ?_)
  refine lv_aload_n S.1 S.2.1 dX8_sheetsThere_10 rfl (lv_at hl 2 rfl) ?_
  refine b_get (v := .ref xs) S iX8 hK hP 0 rfl rfl 0 (by decide) (by decide +kernel) rfl dX8_sheetsThere_11 ?_
  refine lv_iload_n S.1 S.2.1 dX8_sheetsThere_14 rfl (lv_at hl 0 rfl) ?_
  refine b_aald S.1 S.2.1 hK.1 hP 1 3 rfl rfl (by unfold vp_in; decide) hg7 dX8_sheetsThere_15 ?_
  refine b_ai (wr := [(x, .inr (8, [.ref xs, .ref xt, .ref xc, .ref xd, .ref xr, .ref xi, .ref xv, .ref xw, .ref xh, .ref xm, .ref xa, .int 0, .int 0])), (xs, .inl (cS, 8, .inr (.inr (.inr (.inr gs))))), (sh0, .inr (4, [.int (-1), .int 0, .ref it0])), (sh1, .inr (4, [.int (-1), .int 0, .ref it1])), (sh2, .inr (4, [.int (-1), .int 0, .ref it2])), (sh3, .inr (4, [.int (-1), .int 0, .ref it3])), (sh4, .inr (4, [.int (-1), .int 0, .ref it4])), (sh5, .inr (4, [.int (-1), .int 0, .ref it5])), (sh6, .inr (4, [.int (-1), .int 0, .ref it6]))]) (b_runV (q0 := 2) (ci := 4) (As := []) (c_X4_isMissing l D cI cZ cC cS sq H.size sh7 it7) S gX8_sheetsThere_X4_isMissing rfl hdV_X4_isMissing ⟨Nat.le_of_ble_eq_true rfl, Nat.le_of_ble_eq_true rfl⟩ ⟨Nat.le_of_ble_eq_true rfl, Nat.le_of_ble_eq_true rfl⟩ hK hP hD rfl rfl [2] rfl (by decide) rfl hl.1 rfl (Nat.le_of_ble_eq_true rfl) dX8_sheetsThere_16) hP hD hS hA [2] [0, 1, 3, 4, 5, 6, 7, 8, 9] rfl rfl (by decide) (by decide) (fun r_37 w_38 H locs hw_39 hP hD hS => ?_)
  obtain ⟨rfl, rfl⟩ := hw_39
  have hP : va_P D vwCl [(x, .inr (8, [.ref xs, .ref xt, .ref xc, .ref xd, .ref xr, .ref xi, .ref xv, .ref xw, .ref xh, .ref xm, .ref xa, .int 0, .int 0])), (xs, .inl (cS, 8, .inr (.inr (.inr (.inr gs))))), (sh0, .inr (4, [.int (-1), .int 0, .ref it0])), (sh1, .inr (4, [.int (-1), .int 0, .ref it1])), (sh2, .inr (4, [.int (-1), .int 0, .ref it2])), (sh3, .inr (4, [.int (-1), .int 0, .ref it3])), (sh4, .inr (4, [.int (-1), .int 0, .ref it4])), (sh5, .inr (4, [.int (-1), .int 0, .ref it5])), (sh6, .inr (4, [.int (-1), .int 0, .ref it6])), (sh7, .inr (4, [.int (-1), .int 0, .ref it7]))] H := hP
  have hD : va_D A [(x, .inr (8, [.ref xs, .ref xt, .ref xc, .ref xd, .ref xr, .ref xi, .ref xv, .ref xw, .ref xh, .ref xm, .ref xa, .int 0, .int 0])), (xs, .inl (cS, 8, .inr (.inr (.inr (.inr gs))))), (sh0, .inr (4, [.int (-1), .int 0, .ref it0])), (sh1, .inr (4, [.int (-1), .int 0, .ref it1])), (sh2, .inr (4, [.int (-1), .int 0, .ref it2])), (sh3, .inr (4, [.int (-1), .int 0, .ref it3])), (sh4, .inr (4, [.int (-1), .int 0, .ref it4])), (sh5, .inr (4, [.int (-1), .int 0, .ref it5])), (sh6, .inr (4, [.int (-1), .int 0, .ref it6])), (sh7, .inr (4, [.int (-1), .int 0, .ref it7]))] := hD
  refine lv_if_ne (tgt := 25) S.1 S.2.1 dX8_sheetsThere_19 (by decide) (fun c_40 => ?_) (fun c_40 => absurd c_40 (by decide))
  refine lv_iinc (v := 8) (lv' := [(2, .int 8), (1, .int 0), (0, .ref x)]) S.1 S.2.1 dX8_sheetsThere_25 hl (k := 0) rfl (by decide) (by decide) rfl (fun ls hl => ?_)
  refine lv_goto (tgt := 4) S.1 S.2.1 dX8_sheetsThere_28 (by decide) ?_
  refine lv_iload_n S.1 S.2.1 dX8_sheetsThere_4 rfl (lv_at hl 0 rfl) ?_
  refine lv_bipush (v := 8) S.1 S.2.1 dX8_sheetsThere_5 (by decide) ?_
  refine lv_icmp_ge (tgt := 31) S.1 S.2.1 dX8_sheetsThere_7 (by decide) (fun c_41 => ?_) (fun c_41 => absurd c_41 (by decide))
  refine lv_iload_n S.1 S.2.1 dX8_sheetsThere_31 rfl (lv_at hl 1 rfl) ?_
  have hP := hP.sub (ws' := []) [] rfl
  have hD := hD.sub (ws' := []) [] (by decide) rfl
  exact b_iret S.1 S.2.1 X.2.1 X.2.2.1 hP hD hS ⟨rfl, rfl⟩ dX8_sheetsThere_32
set_option maxHeartbeats 4000000 in
set_option maxRecDepth 100000 in
theorem c_X8_count_0 (l : Launch) (D : va_G) (cI cZ cC cS : ClassId) (sq sz : Nat) (x : Nat) (xs : Nat) (xt : Nat) (xc : Nat) (xd : Nat) (xr : Nat) (xi : Nat) (xv : Nat) (xw : Nat) (xh : Nat) (xm : Nat) (xa : Nat) (gs : Nat → Option Nat) (sh0 : Nat) (it0 : Nat) (sh1 : Nat) (it1 : Nat) (sh2 : Nat) (it2 : Nat) (sh3 : Nat) (it3 : Nat) (sh4 : Nat) (it4 : Nat) (sh5 : Nat) (it5 : Nat) (sh6 : Nat) (it6 : Nat) (sh7 : Nat) (it7 : Nat) (hg0 : gs 0 = some sh0) (hg1 : gs 1 = some sh1) (hg2 : gs 2 = some sh2) (hg3 : gs 3 = some sh3) (hg4 : gs 4 = some sh4) (hg5 : gs 5 = some sh5) (hg6 : gs 6 = some sh6) (hg7 : gs 7 = some sh7) : mI l yX8_count wsX8_count 2 42 D (tyW cI cZ cC cS) sq [(x, .inr (8, [.ref xs, .ref xt, .ref xc, .ref xd, .ref xr, .ref xi, .ref xv, .ref xw, .ref xh, .ref xm, .ref xa, .int 0, .int 0])), (xs, .inl (cS, 8, .inr (.inr (.inr (.inr gs))))), (sh0, .inr (4, [.int (-1), .int 0, .ref it0])), (sh1, .inr (4, [.int (-1), .int 0, .ref it1])), (sh2, .inr (4, [.int (-1), .int 0, .ref it2])), (sh3, .inr (4, [.int (-1), .int 0, .ref it3])), (sh4, .inr (4, [.int (-1), .int 0, .ref it4])), (sh5, .inr (4, [.int (-1), .int 0, .ref it5])), (sh6, .inr (4, [.int (-1), .int 0, .ref it6])), (sh7, .inr (4, [.int (-1), .int 0, .ref it7]))] sz [.ref x, .int 0] (fun r w => r = 0 ∧ w = []) := by
  refine b_metI (cc := cX8_count) (maxL := 2) (ret := (some .int)) (by decide) rfl (Nat.le_of_ble_eq_true rfl) ?_
  intro p e s m below meth c ls A H X hsz hP hK hD hA hS hl
  have S : CallFix p m c cX8_count 2 s ([.ref x, .int 0] : List Value).toArray wsX8_count RX8 := X.1
  have hl : lv_has ls 2 [(0, .ref x), (1, .int 0)] := hl
  refine lv_iload_n S.1 S.2.1 dX8_count_0 rfl (lv_at hl 1 rfl) ?_
  refine lv_tableIn (off := 43) (tgt := 44) S.1 S.2.1 dX8_count_1 (by decide) (by decide) (by decide) (by decide) ?_
  refine lv_aload_n S.1 S.2.1 dX8_count_44 rfl (lv_at hl 0 rfl) ?_
  refine b_ai (wr := []) (b_runV (q0 := 0) (ci := 8) (As := []) (c_X8_sheetsThere l D cI cZ cC cS sq H.size x xs xt xc xd xr xi xv xw xh xm xa gs sh0 it0 sh1 it1 sh2 it2 sh3 it3 sh4 it4 sh5 it5 sh6 it6 sh7 it7 (by assumption) (by assumption) (by assumption) (by assumption) (by assumption) (by assumption) (by assumption) (by assumption)) S gX8_count_X8_sheetsThere rfl hdV_X8_sheetsThere ⟨Nat.le_of_ble_eq_true rfl, Nat.le_of_ble_eq_true rfl⟩ ⟨Nat.le_of_ble_eq_true rfl, Nat.le_of_ble_eq_true rfl⟩ hK hP hD rfl rfl [0, 1, 2, 3, 4, 5, 6, 7, 8, 9] rfl (by decide) rfl hl.1 rfl (Nat.le_of_ble_eq_true rfl) dX8_count_45) hP hD hS hA [0, 1, 2, 3, 4, 5, 6, 7, 8, 9] [] rfl rfl (by decide) (by decide) (fun r_1 w_2 H locs hw_3 hP hD hS => ?_)
  obtain ⟨rfl, rfl⟩ := hw_3
  have hP := hP.sub (ws' := []) [] rfl
  have hD := hD.sub (ws' := []) [] (by decide) rfl
  exact b_iret S.1 S.2.1 X.2.1 X.2.2.1 hP hD hS ⟨rfl, rfl⟩ dX8_count_48
set_option maxHeartbeats 4000000 in
set_option maxRecDepth 100000 in
theorem c_X8_count_1 (l : Launch) (D : va_G) (cI cZ cC cS : ClassId) (sq sz : Nat) (x : Nat) (xs : Nat) (xt : Nat) (xc : Nat) (xd : Nat) (xr : Nat) (xi : Nat) (xv : Nat) (xw : Nat) (xh : Nat) (xm : Nat) (xa : Nat) (aCells : Nat) (aPrices : Nat) (aFree : Nat) (aPlaces : Nat) (aHomes : Nat) (aManners : Nat) (aGone : Nat) (aPaid : Nat) (aBlinks : Nat) : mI l yX8_count wsX8_count 0 0 D (tyW cI cZ cC cS) sq [(x, .inr (8, [.ref xs, .ref xt, .ref xc, .ref xd, .ref xr, .ref xi, .ref xv, .ref xw, .ref xh, .ref xm, .ref xa, .int 0, .int 0])), (xc, .inr (1, [.int 0, .int 0, .int 0, .ref aCells, .ref aPrices, .ref aFree, .ref aPlaces, .ref aHomes, .ref aManners, .ref aGone, .ref aPaid, .ref aBlinks]))] sz [.ref x, .int 1] (fun r w => r = 0 ∧ w = []) := by
  refine b_metI (cc := cX8_count) (maxL := 2) (ret := (some .int)) (by decide) rfl (Nat.le_of_ble_eq_true rfl) ?_
  intro p e s m below meth c ls A H X hsz hP hK hD hA hS hl
  have S : CallFix p m c cX8_count 2 s ([.ref x, .int 1] : List Value).toArray wsX8_count RX8 := X.1
  have hl : lv_has ls 2 [(0, .ref x), (1, .int 1)] := hl
  have iX1 := jX8_count_X1
  have iX8 := jX8_count_X8
  refine lv_iload_n S.1 S.2.1 dX8_count_0 rfl (lv_at hl 1 rfl) ?_
  refine lv_tableIn (off := 48) (tgt := 49) S.1 S.2.1 dX8_count_1 (by decide) (by decide) (by decide) (by decide) ?_
  refine lv_aload_n S.1 S.2.1 dX8_count_49 rfl (lv_at hl 0 rfl) ?_
  refine b_get (v := .ref xc) S iX8 hK hP 0 rfl rfl 2 (by decide) (by decide +kernel) rfl dX8_count_50 ?_
  refine b_get (v := .int 0) S iX1 hK hP 1 rfl rfl 0 (by decide) (by decide +kernel) rfl dX8_count_53 ?_
  have hP := hP.sub (ws' := []) [] rfl
  have hD := hD.sub (ws' := []) [] (by decide) rfl
  exact b_iret S.1 S.2.1 X.2.1 X.2.2.1 hP hD hS ⟨rfl, rfl⟩ dX8_count_56
set_option maxHeartbeats 4000000 in
set_option maxRecDepth 100000 in
theorem c_X8_count_2 (l : Launch) (D : va_G) (cI cZ cC cS : ClassId) (sq sz : Nat) (x : Nat) (xs : Nat) (xt : Nat) (xc : Nat) (xd : Nat) (xr : Nat) (xi : Nat) (xv : Nat) (xw : Nat) (xh : Nat) (xm : Nat) (xa : Nat) (aCells : Nat) (aPrices : Nat) (aFree : Nat) (aPlaces : Nat) (aHomes : Nat) (aManners : Nat) (aGone : Nat) (aPaid : Nat) (aBlinks : Nat) : mI l yX8_count wsX8_count 0 0 D (tyW cI cZ cC cS) sq [(x, .inr (8, [.ref xs, .ref xt, .ref xc, .ref xd, .ref xr, .ref xi, .ref xv, .ref xw, .ref xh, .ref xm, .ref xa, .int 0, .int 0])), (xc, .inr (1, [.int 0, .int 0, .int 0, .ref aCells, .ref aPrices, .ref aFree, .ref aPlaces, .ref aHomes, .ref aManners, .ref aGone, .ref aPaid, .ref aBlinks]))] sz [.ref x, .int 2] (fun r w => r = 0 ∧ w = []) := by
  refine b_metI (cc := cX8_count) (maxL := 2) (ret := (some .int)) (by decide) rfl (Nat.le_of_ble_eq_true rfl) ?_
  intro p e s m below meth c ls A H X hsz hP hK hD hA hS hl
  have S : CallFix p m c cX8_count 2 s ([.ref x, .int 2] : List Value).toArray wsX8_count RX8 := X.1
  have hl : lv_has ls 2 [(0, .ref x), (1, .int 2)] := hl
  have iX1 := jX8_count_X1
  have iX8 := jX8_count_X8
  refine lv_iload_n S.1 S.2.1 dX8_count_0 rfl (lv_at hl 1 rfl) ?_
  refine lv_tableIn (off := 56) (tgt := 57) S.1 S.2.1 dX8_count_1 (by decide) (by decide) (by decide) (by decide) ?_
  refine lv_aload_n S.1 S.2.1 dX8_count_57 rfl (lv_at hl 0 rfl) ?_
  refine b_get (v := .ref xc) S iX8 hK hP 0 rfl rfl 2 (by decide) (by decide +kernel) rfl dX8_count_58 ?_
  refine b_get (v := .int 0) S iX1 hK hP 1 rfl rfl 1 (by decide) (by decide +kernel) rfl dX8_count_61 ?_
  have hP := hP.sub (ws' := []) [] rfl
  have hD := hD.sub (ws' := []) [] (by decide) rfl
  exact b_iret S.1 S.2.1 X.2.1 X.2.2.1 hP hD hS ⟨rfl, rfl⟩ dX8_count_64
set_option maxHeartbeats 4000000 in
set_option maxRecDepth 100000 in
theorem c_X8_count_3 (l : Launch) (D : va_G) (cI cZ cC cS : ClassId) (sq sz : Nat) (x : Nat) (xs : Nat) (xt : Nat) (xc : Nat) (xd : Nat) (xr : Nat) (xi : Nat) (xv : Nat) (xw : Nat) (xh : Nat) (xm : Nat) (xa : Nat) (aCells : Nat) (aPrices : Nat) (aFree : Nat) (aPlaces : Nat) (aHomes : Nat) (aManners : Nat) (aGone : Nat) (aPaid : Nat) (aBlinks : Nat) : mI l yX8_count wsX8_count 0 0 D (tyW cI cZ cC cS) sq [(x, .inr (8, [.ref xs, .ref xt, .ref xc, .ref xd, .ref xr, .ref xi, .ref xv, .ref xw, .ref xh, .ref xm, .ref xa, .int 0, .int 0])), (xc, .inr (1, [.int 0, .int 0, .int 0, .ref aCells, .ref aPrices, .ref aFree, .ref aPlaces, .ref aHomes, .ref aManners, .ref aGone, .ref aPaid, .ref aBlinks]))] sz [.ref x, .int 3] (fun r w => r = 0 ∧ w = []) := by
  refine b_metI (cc := cX8_count) (maxL := 2) (ret := (some .int)) (by decide) rfl (Nat.le_of_ble_eq_true rfl) ?_
  intro p e s m below meth c ls A H X hsz hP hK hD hA hS hl
  have S : CallFix p m c cX8_count 2 s ([.ref x, .int 3] : List Value).toArray wsX8_count RX8 := X.1
  have hl : lv_has ls 2 [(0, .ref x), (1, .int 3)] := hl
  have iX1 := jX8_count_X1
  have iX8 := jX8_count_X8
  refine lv_iload_n S.1 S.2.1 dX8_count_0 rfl (lv_at hl 1 rfl) ?_
  refine lv_tableIn (off := 64) (tgt := 65) S.1 S.2.1 dX8_count_1 (by decide) (by decide) (by decide) (by decide) ?_
  refine lv_aload_n S.1 S.2.1 dX8_count_65 rfl (lv_at hl 0 rfl) ?_
  refine b_get (v := .ref xc) S iX8 hK hP 0 rfl rfl 2 (by decide) (by decide +kernel) rfl dX8_count_66 ?_
  refine b_get (v := .int 0) S iX1 hK hP 1 rfl rfl 2 (by decide) (by decide +kernel) rfl dX8_count_69 ?_
  have hP := hP.sub (ws' := []) [] rfl
  have hD := hD.sub (ws' := []) [] (by decide) rfl
  exact b_iret S.1 S.2.1 X.2.1 X.2.2.1 hP hD hS ⟨rfl, rfl⟩ dX8_count_72
set_option maxHeartbeats 4000000 in
set_option maxRecDepth 100000 in
theorem c_X8_count_4 (l : Launch) (D : va_G) (cI cZ cC cS : ClassId) (sq sz : Nat) (x : Nat) (xs : Nat) (xt : Nat) (xc : Nat) (xd : Nat) (xr : Nat) (xi : Nat) (xv : Nat) (xw : Nat) (xh : Nat) (xm : Nat) (xa : Nat) (aCells : Nat) (aPrices : Nat) (aFree : Nat) (aPlaces : Nat) (aHomes : Nat) (aManners : Nat) (aGone : Nat) (aPaid : Nat) (aBlinks : Nat) : mI l yX8_count wsX8_count 3 64 D (tyW cI cZ cC cS) sq [(x, .inr (8, [.ref xs, .ref xt, .ref xc, .ref xd, .ref xr, .ref xi, .ref xv, .ref xw, .ref xh, .ref xm, .ref xa, .int 0, .int 0])), (xc, .inr (1, [.int 0, .int 0, .int 0, .ref aCells, .ref aPrices, .ref aFree, .ref aPlaces, .ref aHomes, .ref aManners, .ref aGone, .ref aPaid, .ref aBlinks]))] sz [.ref x, .int 4] (fun r w => r = 0 ∧ w = []) := by
  refine b_metI (cc := cX8_count) (maxL := 2) (ret := (some .int)) (by decide) rfl (Nat.le_of_ble_eq_true rfl) ?_
  intro p e s m below meth c ls A H X hsz hP hK hD hA hS hl
  have S : CallFix p m c cX8_count 2 s ([.ref x, .int 4] : List Value).toArray wsX8_count RX8 := X.1
  have hl : lv_has ls 2 [(0, .ref x), (1, .int 4)] := hl
  have iX8 := jX8_count_X8
  refine lv_iload_n S.1 S.2.1 dX8_count_0 rfl (lv_at hl 1 rfl) ?_
  refine lv_tableIn (off := 72) (tgt := 73) S.1 S.2.1 dX8_count_1 (by decide) (by decide) (by decide) (by decide) ?_
  refine lv_aload_n S.1 S.2.1 dX8_count_73 rfl (lv_at hl 0 rfl) ?_
  refine b_get (v := .ref xc) S iX8 hK hP 0 rfl rfl 2 (by decide) (by decide +kernel) rfl dX8_count_74 ?_
  refine b_ai (wr := [(x, .inr (8, [.ref xs, .ref xt, .ref xc, .ref xd, .ref xr, .ref xi, .ref xv, .ref xw, .ref xh, .ref xm, .ref xa, .int 0, .int 0]))]) (b_runV (q0 := 1) (ci := 1) (As := []) (c_X1_fronts l D cI cZ cC cS sq H.size xc aCells aPrices aFree aPlaces aHomes aManners aGone aPaid aBlinks) S gX8_count_X1_fronts rfl hdV_X1_fronts ⟨Nat.le_of_ble_eq_true rfl, Nat.le_of_ble_eq_true rfl⟩ ⟨Nat.le_of_ble_eq_true rfl, Nat.le_of_ble_eq_true rfl⟩ hK hP hD rfl rfl [1] rfl (by decide) rfl hl.1 rfl (Nat.le_of_ble_eq_true rfl) dX8_count_77) hP hD hS hA [1] [0] rfl rfl (by decide) (by decide) (fun r_1 w_2 H locs hw_3 hP hD hS => ?_)
  obtain ⟨rfl, rfl⟩ := hw_3
  have hP : va_P D vwCl [(x, .inr (8, [.ref xs, .ref xt, .ref xc, .ref xd, .ref xr, .ref xi, .ref xv, .ref xw, .ref xh, .ref xm, .ref xa, .int 0, .int 0])), (xc, .inr (1, [.int 0, .int 0, .int 0, .ref aCells, .ref aPrices, .ref aFree, .ref aPlaces, .ref aHomes, .ref aManners, .ref aGone, .ref aPaid, .ref aBlinks]))] H := hP
  have hD : va_D A [(x, .inr (8, [.ref xs, .ref xt, .ref xc, .ref xd, .ref xr, .ref xi, .ref xv, .ref xw, .ref xh, .ref xm, .ref xa, .int 0, .int 0])), (xc, .inr (1, [.int 0, .int 0, .int 0, .ref aCells, .ref aPrices, .ref aFree, .ref aPlaces, .ref aHomes, .ref aManners, .ref aGone, .ref aPaid, .ref aBlinks]))] := hD
  have hP := hP.sub (ws' := []) [] rfl
  have hD := hD.sub (ws' := []) [] (by decide) rfl
  exact b_iret S.1 S.2.1 X.2.1 X.2.2.1 hP hD hS ⟨rfl, rfl⟩ dX8_count_80
set_option maxHeartbeats 4000000 in
set_option maxRecDepth 100000 in
theorem c_X8_count_5 (l : Launch) (D : va_G) (cI cZ cC cS : ClassId) (sq sz : Nat) (x : Nat) (xs : Nat) (xt : Nat) (xc : Nat) (xd : Nat) (xr : Nat) (xi : Nat) (xv : Nat) (xw : Nat) (xh : Nat) (xm : Nat) (xa : Nat) (aCells : Nat) (aPrices : Nat) (aFree : Nat) (aPlaces : Nat) (aHomes : Nat) (aManners : Nat) (aGone : Nat) (aPaid : Nat) (aBlinks : Nat) : mI l yX8_count wsX8_count 3 64 D (tyW cI cZ cC cS) sq [(x, .inr (8, [.ref xs, .ref xt, .ref xc, .ref xd, .ref xr, .ref xi, .ref xv, .ref xw, .ref xh, .ref xm, .ref xa, .int 0, .int 0])), (xc, .inr (1, [.int 0, .int 0, .int 0, .ref aCells, .ref aPrices, .ref aFree, .ref aPlaces, .ref aHomes, .ref aManners, .ref aGone, .ref aPaid, .ref aBlinks]))] sz [.ref x, .int 5] (fun r w => r = 0 ∧ w = []) := by
  refine b_metI (cc := cX8_count) (maxL := 2) (ret := (some .int)) (by decide) rfl (Nat.le_of_ble_eq_true rfl) ?_
  intro p e s m below meth c ls A H X hsz hP hK hD hA hS hl
  have S : CallFix p m c cX8_count 2 s ([.ref x, .int 5] : List Value).toArray wsX8_count RX8 := X.1
  have hl : lv_has ls 2 [(0, .ref x), (1, .int 5)] := hl
  have iX8 := jX8_count_X8
  refine lv_iload_n S.1 S.2.1 dX8_count_0 rfl (lv_at hl 1 rfl) ?_
  refine lv_tableIn (off := 80) (tgt := 81) S.1 S.2.1 dX8_count_1 (by decide) (by decide) (by decide) (by decide) ?_
  refine lv_aload_n S.1 S.2.1 dX8_count_81 rfl (lv_at hl 0 rfl) ?_
  refine b_get (v := .ref xc) S iX8 hK hP 0 rfl rfl 2 (by decide) (by decide +kernel) rfl dX8_count_82 ?_
  refine b_ai (wr := [(x, .inr (8, [.ref xs, .ref xt, .ref xc, .ref xd, .ref xr, .ref xi, .ref xv, .ref xw, .ref xh, .ref xm, .ref xa, .int 0, .int 0]))]) (b_runV (q0 := 1) (ci := 1) (As := []) (c_X1_mirrors l D cI cZ cC cS sq H.size xc aCells aPrices aFree aPlaces aHomes aManners aGone aPaid aBlinks) S gX8_count_X1_mirrors rfl hdV_X1_mirrors ⟨Nat.le_of_ble_eq_true rfl, Nat.le_of_ble_eq_true rfl⟩ ⟨Nat.le_of_ble_eq_true rfl, Nat.le_of_ble_eq_true rfl⟩ hK hP hD rfl rfl [1] rfl (by decide) rfl hl.1 rfl (Nat.le_of_ble_eq_true rfl) dX8_count_85) hP hD hS hA [1] [0] rfl rfl (by decide) (by decide) (fun r_1 w_2 H locs hw_3 hP hD hS => ?_)
  obtain ⟨rfl, rfl⟩ := hw_3
  have hP : va_P D vwCl [(x, .inr (8, [.ref xs, .ref xt, .ref xc, .ref xd, .ref xr, .ref xi, .ref xv, .ref xw, .ref xh, .ref xm, .ref xa, .int 0, .int 0])), (xc, .inr (1, [.int 0, .int 0, .int 0, .ref aCells, .ref aPrices, .ref aFree, .ref aPlaces, .ref aHomes, .ref aManners, .ref aGone, .ref aPaid, .ref aBlinks]))] H := hP
  have hD : va_D A [(x, .inr (8, [.ref xs, .ref xt, .ref xc, .ref xd, .ref xr, .ref xi, .ref xv, .ref xw, .ref xh, .ref xm, .ref xa, .int 0, .int 0])), (xc, .inr (1, [.int 0, .int 0, .int 0, .ref aCells, .ref aPrices, .ref aFree, .ref aPlaces, .ref aHomes, .ref aManners, .ref aGone, .ref aPaid, .ref aBlinks]))] := hD
  have hP := hP.sub (ws' := []) [] rfl
  have hD := hD.sub (ws' := []) [] (by decide) rfl
  exact b_iret S.1 S.2.1 X.2.1 X.2.2.1 hP hD hS ⟨rfl, rfl⟩ dX8_count_88
set_option maxHeartbeats 4000000 in
set_option maxRecDepth 100000 in
theorem c_X8_count_6 (l : Launch) (D : va_G) (cI cZ cC cS : ClassId) (sq sz : Nat) (x : Nat) (xs : Nat) (xt : Nat) (xc : Nat) (xd : Nat) (xr : Nat) (xi : Nat) (xv : Nat) (xw : Nat) (xh : Nat) (xm : Nat) (xa : Nat) (by_ : Nat) : mI l yX8_count wsX8_count 0 0 D (tyW cI cZ cC cS) sq [(x, .inr (8, [.ref xs, .ref xt, .ref xc, .ref xd, .ref xr, .ref xi, .ref xv, .ref xw, .ref xh, .ref xm, .ref xa, .int 0, .int 0])), (xt, .inr (5, [.ref by_, .int 0, .int 0, .int 0, .int 0, .int 0]))] sz [.ref x, .int 6] (fun r w => r = 0 ∧ w = []) := by
  refine b_metI (cc := cX8_count) (maxL := 2) (ret := (some .int)) (by decide) rfl (Nat.le_of_ble_eq_true rfl) ?_
  intro p e s m below meth c ls A H X hsz hP hK hD hA hS hl
  have S : CallFix p m c cX8_count 2 s ([.ref x, .int 6] : List Value).toArray wsX8_count RX8 := X.1
  have hl : lv_has ls 2 [(0, .ref x), (1, .int 6)] := hl
  have iX5 := jX8_count_X5
  have iX8 := jX8_count_X8
  refine lv_iload_n S.1 S.2.1 dX8_count_0 rfl (lv_at hl 1 rfl) ?_
  refine lv_tableIn (off := 88) (tgt := 89) S.1 S.2.1 dX8_count_1 (by decide) (by decide) (by decide) (by decide) ?_
  refine lv_aload_n S.1 S.2.1 dX8_count_89 rfl (lv_at hl 0 rfl) ?_
  refine b_get (v := .ref xt) S iX8 hK hP 0 rfl rfl 1 (by decide) (by decide +kernel) rfl dX8_count_90 ?_
  refine b_get (v := .int 0) S iX5 hK hP 1 rfl rfl 1 (by decide) (by decide +kernel) rfl dX8_count_93 ?_
  have hP := hP.sub (ws' := []) [] rfl
  have hD := hD.sub (ws' := []) [] (by decide) rfl
  exact b_iret S.1 S.2.1 X.2.1 X.2.2.1 hP hD hS ⟨rfl, rfl⟩ dX8_count_96
set_option maxHeartbeats 4000000 in
set_option maxRecDepth 100000 in
theorem c_X8_count_d (l : Launch) (D : va_G) (cI cZ cC cS : ClassId) (sq sz : Nat) (x : Nat) (xs : Nat) (xt : Nat) (xc : Nat) (xd : Nat) (xr : Nat) (xi : Nat) (xv : Nat) (xw : Nat) (xh : Nat) (xm : Nat) (xa : Nat) (a : Int32) (hr : a.toInt < 0 ∨ 6 < a.toInt) : mI l yX8_count wsX8_count 0 0 D (tyW cI cZ cC cS) sq [(x, .inr (8, [.ref xs, .ref xt, .ref xc, .ref xd, .ref xr, .ref xi, .ref xv, .ref xw, .ref xh, .ref xm, .ref xa, .int 0, .int 0]))] sz [.ref x, .int a] (fun r w => r = -1000001 ∧ w = []) := by
  refine b_metI (cc := cX8_count) (maxL := 2) (ret := (some .int)) (by decide) rfl (Nat.le_of_ble_eq_true rfl) ?_
  intro p e s m below meth c ls A H X hsz hP hK hD hA hS hl
  have S : CallFix p m c cX8_count 2 s ([.ref x, .int a] : List Value).toArray wsX8_count RX8 := X.1
  have hl : lv_has ls 2 [(0, .ref x), (1, .int a)] := hl
  refine lv_iload_n S.1 S.2.1 dX8_count_0 rfl (lv_at hl 1 rfl) ?_
  refine lv_tableOut (tgt := 97) S.1 S.2.1 dX8_count_1 hr (by decide) ?_
  refine lv_ldc (v := (-1000001)) S.1 S.2.1 S.2.2.2.1 (S.2.2.2.2 (.constant RX8 98 (-1000001)) (by decide +kernel)) dX8_count_97 ?_
  have hP := hP.sub (ws' := []) [] rfl
  have hD := hD.sub (ws' := []) [] (by decide) rfl
  exact b_iret S.1 S.2.1 X.2.1 X.2.2.1 hP hD hS ⟨rfl, rfl⟩ dX8_count_99
set_option maxHeartbeats 4000000 in
set_option maxRecDepth 100000 in
theorem c_X8_city (l : Launch) (D : va_G) (cI cZ cC cS : ClassId) (sq sz : Nat) (x : Nat) (xs : Nat) (xt : Nat) (xc : Nat) (xd : Nat) (xr : Nat) (xi : Nat) (xv : Nat) (xw : Nat) (xh : Nat) (xm : Nat) (xa : Nat) (by_ : Nat) (aCells : Nat) (aPrices : Nat) (aFree : Nat) (aPlaces : Nat) (aHomes : Nat) (aManners : Nat) (aGone : Nat) (aPaid : Nat) (aBlinks : Nat) (fa : Nat → Int32) (fb : Nat → Int32) (fc : Nat → Int32) (fd : Nat → Int32) (fe : Nat → Int32) : mI l yX8_city wsX8_city 3 63 D (tyW cI cZ cC cS) sq [(x, .inr (8, [.ref xs, .ref xt, .ref xc, .ref xd, .ref xr, .ref xi, .ref xv, .ref xw, .ref xh, .ref xm, .ref xa, .int 0, .int 0])), (xr, .inr (3, [.ref xt, .ref xd, .int 0, .int 0])), (xt, .inr (5, [.ref by_, .int 0, .int 0, .int 0, .int 0, .int 0])), (xd, .inr (1, [.int 0, .int 0, .int 0, .ref aCells, .ref aPrices, .ref aFree, .ref aPlaces, .ref aHomes, .ref aManners, .ref aGone, .ref aPaid, .ref aBlinks])), (aPrices, .inl (cI, 6, .inl fa)), (aFree, .inl (cI, 6, .inl fb)), (aGone, .inl (cI, 6, .inl fc)), (aPaid, .inl (cI, 36, .inl fd)), (aBlinks, .inl (cI, 36, .inl fe))] sz [.ref x] (fun r w => r = -1000100 ∧ w = []) := by
  refine b_metI (cc := cX8_city) (maxL := 2) (ret := (some .int)) (by decide) rfl (Nat.le_of_ble_eq_true rfl) ?_
  intro p e s m below meth c ls A H X hsz hP hK hD hA hS hl
  have S : CallFix p m c cX8_city 2 s ([.ref x] : List Value).toArray wsX8_city RX8 := X.1
  have hl : lv_has ls 2 [(0, .ref x)] := hl
  have iX3 := jX8_city_X3
  have iX5 := jX8_city_X5
  have iX8 := jX8_city_X8
  refine lv_aload_n S.1 S.2.1 dX8_city_0 rfl (lv_at hl 0 rfl) ?_
  refine b_get (v := .ref xr) S iX8 hK hP 0 rfl rfl 4 (by decide) (by decide +kernel) rfl dX8_city_1 ?_
  refine b_ai (wr := [(x, .inr (8, [.ref xs, .ref xt, .ref xc, .ref xd, .ref xr, .ref xi, .ref xv, .ref xw, .ref xh, .ref xm, .ref xa, .int 0, .int 0]))]) (b_runV (q0 := 1) (ci := 3) (As := []) (c_X3_read l D cI cZ cC cS sq H.size xr xt by_ xd aCells aPrices aFree aPlaces aHomes aManners aGone aPaid aBlinks fa fb fc fd fe) S gX8_city_X3_read rfl hdV_X3_read ⟨Nat.le_of_ble_eq_true rfl, Nat.le_of_ble_eq_true rfl⟩ ⟨Nat.le_of_ble_eq_true rfl, Nat.le_of_ble_eq_true rfl⟩ hK hP hD rfl rfl [1, 2, 3, 4, 5, 6, 7, 8] rfl (by decide) rfl hl.1 rfl (Nat.le_of_ble_eq_true rfl) dX8_city_4) hP hD hS hA [1, 2, 3, 4, 5, 6, 7, 8] [0] rfl rfl (by decide) (by decide) (fun r_1 w_2 H locs hw_3 hP hD hS => ?_)
  obtain ⟨rfl, rfl⟩ := hw_3
  have hP : va_P D vwCl [(x, .inr (8, [.ref xs, .ref xt, .ref xc, .ref xd, .ref xr, .ref xi, .ref xv, .ref xw, .ref xh, .ref xm, .ref xa, .int 0, .int 0])), (xr, .inr (3, [.ref xt, .ref xd, .int 1, .int 0])), (xt, .inr (5, [.ref by_, .int 0, .int 0, .int 0, .int 0, .int 0]))] H := hP
  have hD : va_D A [(x, .inr (8, [.ref xs, .ref xt, .ref xc, .ref xd, .ref xr, .ref xi, .ref xv, .ref xw, .ref xh, .ref xm, .ref xa, .int 0, .int 0])), (xr, .inr (3, [.ref xt, .ref xd, .int 1, .int 0])), (xt, .inr (5, [.ref by_, .int 0, .int 0, .int 0, .int 0, .int 0]))] := hD
  refine lv_istore_n (lv' := [(1, .int 0), (0, .ref x)]) S.1 S.2.1 dX8_city_7 rfl hl (by decide) rfl (fun ls hl => ?_)
  refine lv_aload_n S.1 S.2.1 dX8_city_8 rfl (lv_at hl 1 rfl) ?_
  refine b_get (v := .ref xt) S iX8 hK hP 0 rfl rfl 1 (by decide) (by decide +kernel) rfl dX8_city_9 ?_
  refine lv_iconst (v := 0) S.1 S.2.1 dX8_city_12 (by decide) ?_
  refine b_put (v := .int 0) S iX5 tyX5 tyX5_ok nmX5 hK hP hD hS 2 rfl rfl 1 (by decide) (by decide +kernel) rfl rfl rfl (Nat.le_of_ble_eq_true rfl) dX8_city_13 (fun H locs hP hD hS => ?_)
  have hP : va_P D vwCl [(x, .inr (8, [.ref xs, .ref xt, .ref xc, .ref xd, .ref xr, .ref xi, .ref xv, .ref xw, .ref xh, .ref xm, .ref xa, .int 0, .int 0])), (xr, .inr (3, [.ref xt, .ref xd, .int 1, .int 0])), (xt, .inr (5, [.ref by_, .int 0, .int 0, .int 0, .int 0, .int 0]))] H := hP
  have hD : va_D A [(x, .inr (8, [.ref xs, .ref xt, .ref xc, .ref xd, .ref xr, .ref xi, .ref xv, .ref xw, .ref xh, .ref xm, .ref xa, .int 0, .int 0])), (xr, .inr (3, [.ref xt, .ref xd, .int 1, .int 0])), (xt, .inr (5, [.ref by_, .int 0, .int 0, .int 0, .int 0, .int 0]))] := hD
  refine lv_iload_n S.1 S.2.1 dX8_city_16 rfl (lv_at hl 0 rfl) ?_
  refine lv_if_ne (tgt := 42) S.1 S.2.1 dX8_city_17 (by decide) (fun c_4 => absurd c_4 (by decide)) (fun c_4 => ?_)
  refine lv_aload_n S.1 S.2.1 dX8_city_20 rfl (lv_at hl 1 rfl) ?_
  refine lv_aload_n S.1 S.2.1 dX8_city_21 rfl (lv_at hl 1 rfl) ?_
  refine b_get (v := .ref xr) S iX8 hK hP 0 rfl rfl 4 (by decide) (by decide +kernel) rfl dX8_city_22 ?_
  refine b_get (v := .int 1) S iX3 hK hP 1 rfl rfl 2 (by decide) (by decide +kernel) rfl dX8_city_25 ?_
  refine b_put (v := .int 1) S iX8 tyX8 tyX8_ok nmX8 hK hP hD hS 0 rfl rfl 11 (by decide) (by decide +kernel) rfl rfl rfl (Nat.le_of_ble_eq_true rfl) dX8_city_28 (fun H locs hP hD hS => ?_)
  have hP : va_P D vwCl [(x, .inr (8, [.ref xs, .ref xt, .ref xc, .ref xd, .ref xr, .ref xi, .ref xv, .ref xw, .ref xh, .ref xm, .ref xa, .int 1, .int 0])), (xr, .inr (3, [.ref xt, .ref xd, .int 1, .int 0])), (xt, .inr (5, [.ref by_, .int 0, .int 0, .int 0, .int 0, .int 0]))] H := hP
  have hD : va_D A [(x, .inr (8, [.ref xs, .ref xt, .ref xc, .ref xd, .ref xr, .ref xi, .ref xv, .ref xw, .ref xh, .ref xm, .ref xa, .int 1, .int 0])), (xr, .inr (3, [.ref xt, .ref xd, .int 1, .int 0])), (xt, .inr (5, [.ref by_, .int 0, .int 0, .int 0, .int 0, .int 0]))] := hD
  refine lv_ldc (v := (-1000100)) S.1 S.2.1 S.2.2.2.1 (S.2.2.2.2 (.constant RX8 152 (-1000100)) (by decide +kernel)) dX8_city_31 ?_
  refine lv_aload_n S.1 S.2.1 dX8_city_33 rfl (lv_at hl 1 rfl) ?_
  refine b_get (v := .ref xr) S iX8 hK hP 0 rfl rfl 4 (by decide) (by decide +kernel) rfl dX8_city_34 ?_
  refine b_get (v := .int 0) S iX3 hK hP 1 rfl rfl 3 (by decide) (by decide +kernel) rfl dX8_city_37 ?_
  refine lv_isub S.1 S.2.1 dX8_city_40 ?_
  refine lv_topi (fun x_5 ex_5 => ?_)
  have ex_5 : x_5 = -1000100 := by rw [ex_5]; decide
  subst ex_5
  have hP := hP.sub (ws' := []) [] rfl
  have hD := hD.sub (ws' := []) [] (by decide) rfl
  exact b_iret S.1 S.2.1 X.2.1 X.2.2.1 hP hD hS ⟨rfl, rfl⟩ dX8_city_41
