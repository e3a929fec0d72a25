set_option maxRecDepth 20000 in
theorem ggX8_isSheet_X8_within : GoodIn wsX8_isSheet wsX8_within := goodIn_r _ [4] (by decide +kernel) (by decide +kernel)
set_option maxRecDepth 20000 in
theorem gX8_isSheet_X8_within : GoodIn wsX8_isSheet (va_wsS RX8 94 yX8_within wsX8_within) := goodIn_app (goodIn_of _ (by decide +kernel)) ggX8_isSheet_X8_within
theorem dX8_fine_0 : decode cX8_fine 0 = .ok (.aload_n 0, 1) := by decide +kernel
theorem dX8_fine_1 : decode cX8_fine 1 = .ok (.iconst 0, 1) := by decide +kernel
theorem dX8_fine_2 : decode cX8_fine 2 = .ok (.putfield 86, 3) := by decide +kernel
theorem dX8_fine_5 : decode cX8_fine 5 = .ok (.iload_n 1, 1) := by decide +kernel
theorem dX8_fine_6 : decode cX8_fine 6 = .ok (.ireturn, 1) := by decide +kernel
theorem dX8_found_0 : decode cX8_found 0 = .ok (.aload_n 0, 1) := by decide +kernel
theorem dX8_found_1 : decode cX8_found 1 = .ok (.iload_n 1, 1) := by decide +kernel
theorem dX8_found_10 : decode cX8_found 10 = .ok (.ireturn, 1) := by decide +kernel
theorem dX8_found_2 : decode cX8_found 2 = .ok (.putfield 86, 3) := by decide +kernel
theorem dX8_found_5 : decode cX8_found 5 = .ok (.ldc_w 310, 3) := by decide +kernel
theorem dX8_found_8 : decode cX8_found 8 = .ok (.iload_n 1, 1) := by decide +kernel
theorem dX8_found_9 : decode cX8_found 9 = .ok (.isub, 1) := by decide +kernel
theorem dX8_isSheet_0 : decode cX8_isSheet 0 = .ok (.iload_n 0, 1) := by decide +kernel
theorem dX8_isSheet_1 : decode cX8_isSheet 1 = .ok (.bipush 8, 2) := by decide +kernel
theorem dX8_isSheet_3 : decode cX8_isSheet 3 = .ok (.invokestatic 94, 3) := by decide +kernel
theorem dX8_isSheet_6 : decode cX8_isSheet 6 = .ok (.ireturn, 1) := by decide +kernel
theorem dX8_within_0 : decode cX8_within 0 = .ok (.iload_n 0, 1) := by decide +kernel
theorem dX8_within_1 : decode cX8_within 1 = .ok (.ifCond .lt 12, 3) := by decide +kernel
theorem dX8_within_10 : decode cX8_within 10 = .ok (.goto 4, 3) := by decide +kernel
theorem dX8_within_13 : decode cX8_within 13 = .ok (.iconst 0, 1) := by decide +kernel
theorem dX8_within_14 : decode cX8_within 14 = .ok (.ireturn, 1) := by decide +kernel
theorem dX8_within_4 : decode cX8_within 4 = .ok (.iload_n 0, 1) := by decide +kernel
theorem dX8_within_5 : decode cX8_within 5 = .ok (.iload_n 1, 1) := by decide +kernel
theorem dX8_within_6 : decode cX8_within 6 = .ok (.if_icmp .ge 7, 3) := by decide +kernel
theorem dX8_within_9 : decode cX8_within 9 = .ok (.iconst 1, 1) := by decide +kernel
theorem jX8_fine_X8 : ∀ w ∈ u_ws RX8 TX8 13, w ∈ wsX8_fine := fun w h => List.mem_cons_of_mem _ (List.mem_append_right _ h)
theorem jX8_found_X8 : ∀ w ∈ u_ws RX8 TX8 13, w ∈ wsX8_found := fun w h => List.mem_cons_of_mem _ (List.mem_append_right _ h)
theorem hdS_X8_within : yX8_within.cls ≠ "java/lang/invoke/MethodHandle" ∧ yX8_within.cls ≠ "java/lang/invoke/VarHandle" ∧ (parseMethodDescriptor yX8_within.desc).map (fun d => d.parameters.length) = some 2 := by decide +kernel
set_option maxHeartbeats 4000000 in
set_option maxRecDepth 100000 in
theorem c_X8_within_t (l : Launch) (D : va_G) (cI cZ cC cS : ClassId) (sq sz : Nat) (a : Int32) (b : Int32) (h1 : ¬ a < 0) (h2 : ¬ b ≤ a) : mI l yX8_within wsX8_within 0 0 D (tyW cI cZ cC cS) sq [] sz [.int a, .int b] (fun r w => r = 1 ∧ w = []) := by
  refine b_metI (cc := cX8_within) (maxL := 2) (ret := (some .boolean)) (by decide) rfl (Nat.le_of_ble_eq_true rfl) ?_
  intro p e s m below meth c ls A H X hsz hP hK hD hA hS hl
  have S : CallFix p m c cX8_within 2 s ([.int a, .int b] : List Value).toArray wsX8_within RX8 := X.1
  have hl : lv_has ls 2 [(0, .int a), (1, .int b)] := hl
  refine lv_iload_n S.1 S.2.1 dX8_within_0 rfl (lv_at hl 0 rfl) ?_
  refine lv_if_lt (tgt := 13) S.1 S.2.1 dX8_within_1 (by decide) (fun c_1 => absurd c_1 h1) (fun c_1 => ?_)
  refine lv_iload_n S.1 S.2.1 dX8_within_4 rfl (lv_at hl 0 rfl) ?_
  refine lv_iload_n S.1 S.2.1 dX8_within_5 rfl (lv_at hl 1 rfl) ?_
  refine lv_icmp_ge (tgt := 13) S.1 S.2.1 dX8_within_6 (by decide) (fun c_2 => absurd c_2 h2) (fun c_2 => ?_)
  refine lv_iconst (v := 1) S.1 S.2.1 dX8_within_9 (by decide) ?_
  refine lv_goto (tgt := 14) S.1 S.2.1 dX8_within_10 (by decide) ?_
  exact b_zret S.1 S.2.1 X.2.1 X.2.2.1 rfl hP hD hS ⟨rfl, rfl⟩ dX8_within_14
set_option maxHeartbeats 4000000 in
set_option maxRecDepth 100000 in
theorem c_X8_within_f1 (l : Launch) (D : va_G) (cI cZ cC cS : ClassId) (sq sz : Nat) (a : Int32) (b : Int32) (h1 : a < 0) : mI l yX8_within wsX8_within 0 0 D (tyW cI cZ cC cS) sq [] sz [.int a, .int b] (fun r w => r = 0 ∧ w = []) := by
  refine b_metI (cc := cX8_within) (maxL := 2) (ret := (some .boolean)) (by decide) rfl (Nat.le_of_ble_eq_true rfl) ?_
  intro p e s m below meth c ls A H X hsz hP hK hD hA hS hl
  have S : CallFix p m c cX8_within 2 s ([.int a, .int b] : List Value).toArray wsX8_within RX8 := X.1
  have hl : lv_has ls 2 [(0, .int a), (1, .int b)] := hl
  refine lv_iload_n S.1 S.2.1 dX8_within_0 rfl (lv_at hl 0 rfl) ?_
  refine lv_if_lt (tgt := 13) S.1 S.2.1 dX8_within_1 (by decide) (fun c_1 => ?_) (fun c_1 => absurd h1 c_1)
  refine lv_iconst (v := 0) S.1 S.2.1 dX8_within_13 (by decide) ?_
  exact b_zret S.1 S.2.1 X.2.1 X.2.2.1 rfl hP hD hS ⟨rfl, rfl⟩ dX8_within_14
set_option maxHeartbeats 4000000 in
set_option maxRecDepth 100000 in
theorem c_X8_within_f2 (l : Launch) (D : va_G) (cI cZ cC cS : ClassId) (sq sz : Nat) (a : Int32) (b : Int32) (h1 : ¬ a < 0) (h2 : b ≤ a) : mI l yX8_within wsX8_within 0 0 D (tyW cI cZ cC cS) sq [] sz [.int a, .int b] (fun r w => r = 0 ∧ w = []) := by
  refine b_metI (cc := cX8_within) (maxL := 2) (ret := (some .boolean)) (by decide) rfl (Nat.le_of_ble_eq_true rfl) ?_
  intro p e s m below meth c ls A H X hsz hP hK hD hA hS hl
  have S : CallFix p m c cX8_within 2 s ([.int a, .int b] : List Value).toArray wsX8_within RX8 := X.1
  have hl : lv_has ls 2 [(0, .int a), (1, .int b)] := hl
  refine lv_iload_n S.1 S.2.1 dX8_within_0 rfl (lv_at hl 0 rfl) ?_
  refine lv_if_lt (tgt := 13) S.1 S.2.1 dX8_within_1 (by decide) (fun c_1 => absurd c_1 h1) (fun c_1 => ?_)
  refine lv_iload_n S.1 S.2.1 dX8_within_4 rfl (lv_at hl 0 rfl) ?_
  refine lv_iload_n S.1 S.2.1 dX8_within_5 rfl (lv_at hl 1 rfl) ?_
  refine lv_icmp_ge (tgt := 13) S.1 S.2.1 dX8_within_6 (by decide) (fun c_2 => ?_) (fun c_2 => absurd h2 c_2)
  refine lv_iconst (v := 0) S.1 S.2.1 dX8_within_13 (by decide) ?_
  exact b_zret S.1 S.2.1 X.2.1 X.2.2.1 rfl hP hD hS ⟨rfl, rfl⟩ dX8_within_14
theorem c_X8_within_f (l : Launch) (D : va_G) (cI cZ cC cS : ClassId) (sq sz : Nat) (a : Int32) (b : Int32) (hf : ¬ a < 0 → b ≤ a) : mI l yX8_within wsX8_within 0 0 D (tyW cI cZ cC cS) sq [] sz [.int a, .int b] (fun r w => r = 0 ∧ w = []) := by
  by_cases h : a < 0
  · exact c_X8_within_f1 l D cI cZ cC cS sq sz a b h
  · exact c_X8_within_f2 l D cI cZ cC cS sq sz a b h (hf h)
set_option maxHeartbeats 4000000 in
set_option maxRecDepth 100000 in
theorem c_X8_isSheet_t (l : Launch) (D : va_G) (cI cZ cC cS : ClassId) (sq sz : Nat) (a : Int32) (hr : 0 ≤ a.toInt ∧ a.toInt ≤ 7) : mI l yX8_isSheet wsX8_isSheet 1 21 D (tyW cI cZ cC cS) sq [] sz [.int a] (fun r w => r = 1 ∧ w = []) := by
  refine b_metI (cc := cX8_isSheet) (maxL := 1) (ret := (some .boolean)) (by decide) rfl (Nat.le_of_ble_eq_true rfl) ?_
  intro p e s m below meth c ls A H X hsz hP hK hD hA hS hl
  have S : CallFix p m c cX8_isSheet 1 s ([.int a] : List Value).toArray wsX8_isSheet RX8 := X.1
  have hl : lv_has ls 1 [(0, .int a)] := hl
  refine lv_iload_n S.1 S.2.1 dX8_isSheet_0 rfl (lv_at hl 0 rfl) ?_
  refine lv_bipush (v := 8) S.1 S.2.1 dX8_isSheet_1 (by decide) ?_
  refine b_ai (wr := []) (b_runS (As := [.int a, .int 8]) (c_X8_within_t l D cI cZ cC cS sq H.size a 8 (by rw [c_lt (N := 0) rfl]; omega) (by rw [c_ge (N := 8) rfl]; omega)) S gX8_isSheet_X8_within rfl hdS_X8_within ⟨Nat.le_of_ble_eq_true rfl, Nat.le_of_ble_eq_true rfl⟩ ⟨Nat.le_of_ble_eq_true rfl, Nat.le_of_ble_eq_true rfl⟩ hK hP hD [] rfl (by decide) rfl hl.1 rfl (Nat.le_of_ble_eq_true rfl) dX8_isSheet_3) hP hD hS hA [] [] rfl rfl (by decide) (by decide) (fun r_1 w_2 H locs hw_3 hP hD hS => ?_)
  obtain ⟨rfl, rfl⟩ := hw_3
  exact b_zret S.1 S.2.1 X.2.1 X.2.2.1 rfl hP hD hS ⟨rfl, rfl⟩ dX8_isSheet_6
set_option maxHeartbeats 4000000 in
set_option maxRecDepth 100000 in
theorem c_X8_isSheet_f (l : Launch) (D : va_G) (cI cZ cC cS : ClassId) (sq sz : Nat) (a : Int32) (hr : a.toInt < 0 ∨ 7 < a.toInt) : mI l yX8_isSheet wsX8_isSheet 1 21 D (tyW cI cZ cC cS) sq [] sz [.int a] (fun r w => r = 0 ∧ w = []) := by
  refine b_metI (cc := cX8_isSheet) (maxL := 1) (ret := (some .boolean)) (by decide) rfl (Nat.le_of_ble_eq_true rfl) ?_
  intro p e s m below meth c ls A H X hsz hP hK hD hA hS hl
  have S : CallFix p m c cX8_isSheet 1 s ([.int a] : List Value).toArray wsX8_isSheet RX8 := X.1
  have hl : lv_has ls 1 [(0, .int a)] := hl
  refine lv_iload_n S.1 S.2.1 dX8_isSheet_0 rfl (lv_at hl 0 rfl) ?_
  refine lv_bipush (v := 8) S.1 S.2.1 dX8_isSheet_1 (by decide) ?_
  refine b_ai (wr := []) (b_runS (As := [.int a, .int 8]) (c_X8_within_f l D cI cZ cC cS sq H.size a 8 (fun z => by rw [c_lt (N := 0) rfl] at z; rw [c_ge (N := 8) rfl]; omega)) S gX8_isSheet_X8_within rfl hdS_X8_within ⟨Nat.le_of_ble_eq_true rfl, Nat.le_of_ble_eq_true rfl⟩ ⟨Nat.le_of_ble_eq_true rfl, Nat.le_of_ble_eq_true rfl⟩ hK hP hD [] rfl (by decide) rfl hl.1 rfl (Nat.le_of_ble_eq_true rfl) dX8_isSheet_3) hP hD hS hA [] [] rfl rfl (by decide) (by decide) (fun r_1 w_2 H locs hw_3 hP hD hS => ?_)
  obtain ⟨rfl, rfl⟩ := hw_3
  exact b_zret S.1 S.2.1 X.2.1 X.2.2.1 rfl hP hD hS ⟨rfl, rfl⟩ dX8_isSheet_6
set_option maxHeartbeats 4000000 in
set_option maxRecDepth 100000 in
theorem c_X8_found_1 (l : Launch) (D : va_G) (cI cZ cC cS : ClassId) (sq sz : Nat) (x : Nat) (xs : Nat) (xt : Nat) (xc : Nat) (xd : Nat) (xr : Nat) (xi : Nat) (xv : Nat) (xw : Nat) (xh : Nat) (xm : Nat) (xa : Nat) : mI l yX8_found wsX8_found 0 0 D (tyW cI cZ cC cS) sq [(x, .inr (8, [.ref xs, .ref xt, .ref xc, .ref xd, .ref xr, .ref xi, .ref xv, .ref xw, .ref xh, .ref xm, .ref xa, .int 0, .int 0]))] sz [.ref x, .int 1] (fun r w => r = -1000011 ∧ w = [(x, .inr (8, [.ref xs, .ref xt, .ref xc, .ref xd, .ref xr, .ref xi, .ref xv, .ref xw, .ref xh, .ref xm, .ref xa, .int 0, .int 1]))]) := by
  refine b_metI (cc := cX8_found) (maxL := 2) (ret := (some .int)) (by decide) rfl (Nat.le_of_ble_eq_true rfl) ?_
  intro p e s m below meth c ls A H X hsz hP hK hD hA hS hl
  have S : CallFix p m c cX8_found 2 s ([.ref x, .int 1] : List Value).toArray wsX8_found RX8 := X.1
  have hl : lv_has ls 2 [(0, .ref x), (1, .int 1)] := hl
  have iX8 := jX8_found_X8
  refine lv_aload_n S.1 S.2.1 dX8_found_0 rfl (lv_at hl 0 rfl) ?_
  refine lv_iload_n S.1 S.2.1 dX8_found_1 rfl (lv_at hl 1 rfl) ?_
  refine b_put (v := .int 1) S iX8 tyX8 tyX8_ok nmX8 hK hP hD hS 0 rfl rfl 12 (by decide) (by decide +kernel) rfl rfl rfl (Nat.le_of_ble_eq_true rfl) dX8_found_2 (fun H locs hP hD hS => ?_)
  have hP : va_P D vwCl [(x, .inr (8, [.ref xs, .ref xt, .ref xc, .ref xd, .ref xr, .ref xi, .ref xv, .ref xw, .ref xh, .ref xm, .ref xa, .int 0, .int 1]))] H := hP
  have hD : va_D A [(x, .inr (8, [.ref xs, .ref xt, .ref xc, .ref xd, .ref xr, .ref xi, .ref xv, .ref xw, .ref xh, .ref xm, .ref xa, .int 0, .int 1]))] := hD
  refine lv_ldcw (v := (-1000010)) S.1 S.2.1 S.2.2.2.1 (S.2.2.2.2 (.constant RX8 310 (-1000010)) (by decide +kernel)) dX8_found_5 ?_
  refine lv_iload_n S.1 S.2.1 dX8_found_8 rfl (lv_at hl 1 rfl) ?_
  refine lv_isub S.1 S.2.1 dX8_found_9 ?_
  refine lv_topi (fun x_1 ex_1 => ?_)
  have ex_1 : x_1 = -1000011 := by rw [ex_1]; decide
  subst ex_1
  exact b_iret S.1 S.2.1 X.2.1 X.2.2.1 hP hD hS ⟨rfl, rfl⟩ dX8_found_10
set_option maxHeartbeats 4000000 in
set_option maxRecDepth 100000 in
theorem c_X8_found_4 (l : Launch) (D : va_G) (cI cZ cC cS : ClassId) (sq sz : Nat) (x : Nat) (xs : Nat) (xt : Nat) (xc : Nat) (xd : Nat) (xr : Nat) (xi : Nat) (xv : Nat) (xw : Nat) (xh : Nat) (xm : Nat) (xa : Nat) : mI l yX8_found wsX8_found 0 0 D (tyW cI cZ cC cS) sq [(x, .inr (8, [.ref xs, .ref xt, .ref xc, .ref xd, .ref xr, .ref xi, .ref xv, .ref xw, .ref xh, .ref xm, .ref xa, .int 0, .int 0]))] sz [.ref x, .int 4] (fun r w => r = -1000014 ∧ w = [(x, .inr (8, [.ref xs, .ref xt, .ref xc, .ref xd, .ref xr, .ref xi, .ref xv, .ref xw, .ref xh, .ref xm, .ref xa, .int 0, .int 4]))]) := by
  refine b_metI (cc := cX8_found) (maxL := 2) (ret := (some .int)) (by decide) rfl (Nat.le_of_ble_eq_true rfl) ?_
  intro p e s m below meth c ls A H X hsz hP hK hD hA hS hl
  have S : CallFix p m c cX8_found 2 s ([.ref x, .int 4] : List Value).toArray wsX8_found RX8 := X.1
  have hl : lv_has ls 2 [(0, .ref x), (1, .int 4)] := hl
  have iX8 := jX8_found_X8
  refine lv_aload_n S.1 S.2.1 dX8_found_0 rfl (lv_at hl 0 rfl) ?_
  refine lv_iload_n S.1 S.2.1 dX8_found_1 rfl (lv_at hl 1 rfl) ?_
  refine b_put (v := .int 4) S iX8 tyX8 tyX8_ok nmX8 hK hP hD hS 0 rfl rfl 12 (by decide) (by decide +kernel) rfl rfl rfl (Nat.le_of_ble_eq_true rfl) dX8_found_2 (fun H locs hP hD hS => ?_)
  have hP : va_P D vwCl [(x, .inr (8, [.ref xs, .ref xt, .ref xc, .ref xd, .ref xr, .ref xi, .ref xv, .ref xw, .ref xh, .ref xm, .ref xa, .int 0, .int 4]))] H := hP
  have hD : va_D A [(x, .inr (8, [.ref xs, .ref xt, .ref xc, .ref xd, .ref xr, .ref xi, .ref xv, .ref xw, .ref xh, .ref xm, .ref xa, .int 0, .int 4]))] := hD
  refine lv_ldcw (v := (-1000010)) S.1 S.2.1 S.2.2.2.1 (S.2.2.2.2 (.constant RX8 310 (-1000010)) (by decide +kernel)) dX8_found_5 ?_
  refine lv_iload_n S.1 S.2.1 dX8_found_8 rfl (lv_at hl 1 rfl) ?_
  refine lv_isub S.1 S.2.1 dX8_found_9 ?_
  refine lv_topi (fun x_1 ex_1 => ?_)
  have ex_1 : x_1 = -1000014 := by rw [ex_1]; decide
  subst ex_1
  exact b_iret S.1 S.2.1 X.2.1 X.2.2.1 hP hD hS ⟨rfl, rfl⟩ dX8_found_10
set_option maxHeartbeats 4000000 in
set_option maxRecDepth 100000 in
theorem c_X8_fine (l : Launch) (D : va_G) (cI cZ cC cS : ClassId) (sq sz : Nat) (x : Nat) (xs : Nat) (xt : Nat) (xc : Nat) (xd : Nat) (xr : Nat) (xi : Nat) (xv : Nat) (xw : Nat) (xh : Nat) (xm : Nat) (xa : Nat) (v : Int32) : mI l yX8_fine wsX8_fine 0 0 D (tyW cI cZ cC cS) sq [(x, .inr (8, [.ref xs, .ref xt, .ref xc, .ref xd, .ref xr, .ref xi, .ref xv, .ref xw, .ref xh, .ref xm, .ref xa, .int 0, .int 0]))] sz [.ref x, .int v] (fun r w => r = v ∧ w = [(x, .inr (8, [.ref xs, .ref xt, .ref xc, .ref xd, .ref xr, .ref xi, .ref xv, .ref xw, .ref xh, .ref xm, .ref xa, .int 0, .int 0]))]) := by
  refine b_metI (cc := cX8_fine) (maxL := 2) (ret := (some .int)) (by decide) rfl (Nat.le_of_ble_eq_true rfl) ?_
  intro p e s m below meth c ls A H X hsz hP hK hD hA hS hl
  have S : CallFix p m c cX8_fine 2 s ([.ref x, .int v] : List Value).toArray wsX8_fine RX8 := X.1
  have hl : lv_has ls 2 [(0, .ref x), (1, .int v)] := hl
  have iX8 := jX8_fine_X8
  refine lv_aload_n S.1 S.2.1 dX8_fine_0 rfl (lv_at hl 0 rfl) ?_
  refine lv_iconst (v := 0) S.1 S.2.1 dX8_fine_1 (by decide) ?_
  refine b_put (v := .int 0) S iX8 tyX8 tyX8_ok nmX8 hK hP hD hS 0 rfl rfl 12 (by decide) (by decide +kernel) rfl rfl rfl (Nat.le_of_ble_eq_true rfl) dX8_fine_2 (fun H locs hP hD hS => ?_)
  have hP : va_P D vwCl [(x, .inr (8, [.ref xs, .ref xt, .ref xc, .ref xd, .ref xr, .ref xi, .ref xv, .ref xw, .ref xh, .ref xm, .ref xa, .int 0, .int 0]))] H := hP
  have hD : va_D A [(x, .inr (8, [.ref xs, .ref xt, .ref xc, .ref xd, .ref xr, .ref xi, .ref xv, .ref xw, .ref xh, .ref xm, .ref xa, .int 0, .int 0]))] := hD
  refine lv_iload_n S.1 S.2.1 dX8_fine_5 rfl (lv_at hl 1 rfl) ?_
  exact b_iret S.1 S.2.1 X.2.1 X.2.2.1 hP hD hS ⟨rfl, rfl⟩ dX8_fine_6
