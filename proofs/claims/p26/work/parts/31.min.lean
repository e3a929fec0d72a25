set_option maxRecDepth 20000 in
theorem ggX9_isOwner_X9_in : GoodIn wsX9_isOwner wsX9_in := goodIn_r _ [5] (by first | exact rfl | decide +kernel) (by decide +kernel)
set_option maxRecDepth 20000 in
theorem gX9_isOwner_X9_in : GoodIn wsX9_isOwner (va_wsS RX9 63 yX9_in wsX9_in) := goodIn_app (goodIn_r _ [2, 3, 4] (by first | exact rfl | decide +kernel) (by decide +kernel)) ggX9_isOwner_X9_in
set_option maxRecDepth 20000 in
theorem ggX9_isSheet_X9_in : GoodIn wsX9_isSheet wsX9_in := goodIn_r _ [5] (by first | exact rfl | decide +kernel) (by decide +kernel)
set_option maxRecDepth 20000 in
theorem gX9_isSheet_X9_in : GoodIn wsX9_isSheet (va_wsS RX9 63 yX9_in wsX9_in) := goodIn_app (goodIn_r _ [2, 3, 4] (by first | exact rfl | decide +kernel) (by decide +kernel)) ggX9_isSheet_X9_in
set_option maxRecDepth 20000 in
theorem ggX9_isWay_X9_in : GoodIn wsX9_isWay wsX9_in := goodIn_r _ [5] (by first | exact rfl | decide +kernel) (by decide +kernel)
set_option maxRecDepth 20000 in
theorem gX9_isWay_X9_in : GoodIn wsX9_isWay (va_wsS RX9 63 yX9_in wsX9_in) := goodIn_app (goodIn_r _ [2, 3, 4] (by first | exact rfl | decide +kernel) (by decide +kernel)) ggX9_isWay_X9_in
set_option maxRecDepth 20000 in
theorem gdX9_in_0 : decode cX9_in 0 = .ok (.lload_n 0, 1) ∧ decode cX9_in 1 = .ok (.lload_n 2, 1) ∧ decode cX9_in 2 = .ok (.lcmp, 1) ∧ decode cX9_in 3 = .ok (.ifCond .lt 14, 3) ∧ decode cX9_in 6 = .ok (.lload_n 0, 1) ∧ decode cX9_in 7 = .ok (.lload 4, 2) ∧ decode cX9_in 9 = .ok (.lcmp, 1) ∧ decode cX9_in 10 = .ok (.ifCond .gt 7, 3) := by decide +kernel
theorem dX9_in_0 : decode cX9_in 0 = .ok (.lload_n 0, 1) := gdX9_in_0.1
theorem dX9_in_1 : decode cX9_in 1 = .ok (.lload_n 2, 1) := gdX9_in_0.2.1
theorem dX9_in_2 : decode cX9_in 2 = .ok (.lcmp, 1) := gdX9_in_0.2.2.1
theorem dX9_in_3 : decode cX9_in 3 = .ok (.ifCond .lt 14, 3) := gdX9_in_0.2.2.2.1
theorem dX9_in_6 : decode cX9_in 6 = .ok (.lload_n 0, 1) := gdX9_in_0.2.2.2.2.1
theorem dX9_in_7 : decode cX9_in 7 = .ok (.lload 4, 2) := gdX9_in_0.2.2.2.2.2.1
theorem dX9_in_9 : decode cX9_in 9 = .ok (.lcmp, 1) := gdX9_in_0.2.2.2.2.2.2.1
theorem dX9_in_10 : decode cX9_in 10 = .ok (.ifCond .gt 7, 3) := gdX9_in_0.2.2.2.2.2.2.2
set_option maxRecDepth 20000 in
theorem gdX9_in_13 : decode cX9_in 13 = .ok (.iconst 1, 1) ∧ decode cX9_in 14 = .ok (.goto 4, 3) ∧ decode cX9_in 17 = .ok (.iconst 0, 1) ∧ decode cX9_in 18 = .ok (.ireturn, 1) := by decide +kernel
theorem dX9_in_13 : decode cX9_in 13 = .ok (.iconst 1, 1) := gdX9_in_13.1
theorem dX9_in_14 : decode cX9_in 14 = .ok (.goto 4, 3) := gdX9_in_13.2.1
theorem dX9_in_17 : decode cX9_in 17 = .ok (.iconst 0, 1) := gdX9_in_13.2.2.1
theorem dX9_in_18 : decode cX9_in 18 = .ok (.ireturn, 1) := gdX9_in_13.2.2.2
set_option maxRecDepth 20000 in
theorem gdX9_isOwner_0 : decode cX9_isOwner 0 = .ok (.iload_n 0, 1) ∧ decode cX9_isOwner 1 = .ok (.i2l, 1) ∧ decode cX9_isOwner 2 = .ok (.lconst 0, 1) ∧ decode cX9_isOwner 3 = .ok (.ldc2_w 231, 3) ∧ decode cX9_isOwner 6 = .ok (.invokestatic 63, 3) ∧ decode cX9_isOwner 9 = .ok (.ireturn, 1) := by decide +kernel
theorem dX9_isOwner_0 : decode cX9_isOwner 0 = .ok (.iload_n 0, 1) := gdX9_isOwner_0.1
theorem dX9_isOwner_1 : decode cX9_isOwner 1 = .ok (.i2l, 1) := gdX9_isOwner_0.2.1
theorem dX9_isOwner_2 : decode cX9_isOwner 2 = .ok (.lconst 0, 1) := gdX9_isOwner_0.2.2.1
theorem dX9_isOwner_3 : decode cX9_isOwner 3 = .ok (.ldc2_w 231, 3) := gdX9_isOwner_0.2.2.2.1
theorem dX9_isOwner_6 : decode cX9_isOwner 6 = .ok (.invokestatic 63, 3) := gdX9_isOwner_0.2.2.2.2.1
theorem dX9_isOwner_9 : decode cX9_isOwner 9 = .ok (.ireturn, 1) := gdX9_isOwner_0.2.2.2.2.2
set_option maxRecDepth 20000 in
theorem gdX9_isSheet_0 : decode cX9_isSheet 0 = .ok (.iload_n 0, 1) ∧ decode cX9_isSheet 1 = .ok (.i2l, 1) ∧ decode cX9_isSheet 2 = .ok (.lconst 0, 1) ∧ decode cX9_isSheet 3 = .ok (.ldc2_w 61, 3) ∧ decode cX9_isSheet 6 = .ok (.invokestatic 63, 3) ∧ decode cX9_isSheet 9 = .ok (.ireturn, 1) := by decide +kernel
theorem dX9_isSheet_0 : decode cX9_isSheet 0 = .ok (.iload_n 0, 1) := gdX9_isSheet_0.1
theorem dX9_isSheet_1 : decode cX9_isSheet 1 = .ok (.i2l, 1) := gdX9_isSheet_0.2.1
theorem dX9_isSheet_2 : decode cX9_isSheet 2 = .ok (.lconst 0, 1) := gdX9_isSheet_0.2.2.1
theorem dX9_isSheet_3 : decode cX9_isSheet 3 = .ok (.ldc2_w 61, 3) := gdX9_isSheet_0.2.2.2.1
theorem dX9_isSheet_6 : decode cX9_isSheet 6 = .ok (.invokestatic 63, 3) := gdX9_isSheet_0.2.2.2.2.1
theorem dX9_isSheet_9 : decode cX9_isSheet 9 = .ok (.ireturn, 1) := gdX9_isSheet_0.2.2.2.2.2
set_option maxRecDepth 20000 in
theorem gdX9_isWay_0 : decode cX9_isWay 0 = .ok (.iload_n 0, 1) ∧ decode cX9_isWay 1 = .ok (.i2l, 1) ∧ decode cX9_isWay 2 = .ok (.lconst 0, 1) ∧ decode cX9_isWay 3 = .ok (.ldc2_w 61, 3) ∧ decode cX9_isWay 6 = .ok (.invokestatic 63, 3) ∧ decode cX9_isWay 9 = .ok (.ireturn, 1) := by decide +kernel
theorem dX9_isWay_0 : decode cX9_isWay 0 = .ok (.iload_n 0, 1) := gdX9_isWay_0.1
theorem dX9_isWay_1 : decode cX9_isWay 1 = .ok (.i2l, 1) := gdX9_isWay_0.2.1
theorem dX9_isWay_2 : decode cX9_isWay 2 = .ok (.lconst 0, 1) := gdX9_isWay_0.2.2.1
theorem dX9_isWay_3 : decode cX9_isWay 3 = .ok (.ldc2_w 61, 3) := gdX9_isWay_0.2.2.2.1
theorem dX9_isWay_6 : decode cX9_isWay 6 = .ok (.invokestatic 63, 3) := gdX9_isWay_0.2.2.2.2.1
theorem dX9_isWay_9 : decode cX9_isWay 9 = .ok (.ireturn, 1) := gdX9_isWay_0.2.2.2.2.2
theorem hdS_X9_in : yX9_in.cls ≠ "java/lang/invoke/MethodHandle" ∧ yX9_in.cls ≠ "java/lang/invoke/VarHandle" ∧ (parseMethodDescriptor yX9_in.desc).map (fun d => d.parameters.length) = some 3 := by decide +kernel
set_option maxHeartbeats 4000000 in
set_option maxRecDepth 100000 in
theorem s_X9_in (l : Launch) (D : va_G) (cI cZ cC cS : ClassId) (sq : Nat → Nat) (sz : Nat) (v : Int64) (lo : Int64) (hi : Int64) : mI l yX9_in wsX9_in 0 0 D (tyW cI cZ cC cS) sq [] sz [.long v, .long lo, .long hi] (fun r w => ((lo.toInt ≤ v.toInt ∧ v.toInt ≤ hi.toInt) ∧ r = 1 ∧ w = []) ∨ ((v.toInt < lo.toInt ∨ hi.toInt < v.toInt) ∧ r = 0 ∧ w = [])) := by
  refine b_metI (cc := cX9_in) (maxL := 6) (ret := (some .boolean)) (by decide) rfl (Nat.le_of_ble_eq_true rfl) ?_
  intro p e s m below meth c ls A H X hsz hP hK hT hD hA hS hl
  have S : CallFix p m c cX9_in 6 s ([.long v, .long lo, .long hi] : List Value).toArray wsX9_in RX9 := X.1
  have hl : lv_has ls 6 [(0, .long v), (2, .long lo), (4, .long hi)] := hl
  refine lv_lload_n S.1 S.2.1 dX9_in_0 rfl (lv_at hl 0 rfl) ?_
  refine lv_lload_n S.1 S.2.1 dX9_in_1 rfl (lv_at hl 1 rfl) ?_
  refine W.lcmp S.1 S.2.1 dX9_in_2 ?_
  refine lv_if_lt (tgt := 17) S.1 S.2.1 dX9_in_3 (by decide) (fun c_1 => ?_) (fun c_1 => ?_)
  · rw [lg_cmp_lt] at c_1
    refine lv_iconst (v := (0)) S.1 S.2.1 dX9_in_17 (by decide) ?_
    exact b_zret S.1 S.2.1 X.2.1 X.2.2.1 rfl hP hD hS (Or.inr (⟨(by first | (rw [Int64.lt_iff_toInt_lt] at c_1 c_2; omega) | (rw [Int64.lt_iff_toInt_lt] at c_1; omega)), rfl, rfl⟩)) dX9_in_18
  · rw [lg_cmp_lt] at c_1
    refine lv_lload_n S.1 S.2.1 dX9_in_6 rfl (lv_at hl 0 rfl) ?_
    refine lv_lload S.1 S.2.1 dX9_in_7 (lv_at hl 2 rfl) ?_
    refine W.lcmp S.1 S.2.1 dX9_in_9 ?_
    refine lv_if_gt (tgt := 17) S.1 S.2.1 dX9_in_10 (by decide) (fun c_2 => ?_) (fun c_2 => ?_)
    · rw [lg_cmp_gt] at c_2
      refine lv_iconst (v := (0)) S.1 S.2.1 dX9_in_17 (by decide) ?_
      exact b_zret S.1 S.2.1 X.2.1 X.2.2.1 rfl hP hD hS (Or.inr (⟨(by first | (rw [Int64.lt_iff_toInt_lt] at c_1 c_2; omega) | (rw [Int64.lt_iff_toInt_lt] at c_1; omega)), rfl, rfl⟩)) dX9_in_18
    · rw [lg_cmp_gt] at c_2
      refine lv_iconst (v := (1)) S.1 S.2.1 dX9_in_13 (by decide) ?_
      refine lv_goto (tgt := 18) S.1 S.2.1 dX9_in_14 (by decide) ?_
      exact b_zret S.1 S.2.1 X.2.1 X.2.2.1 rfl hP hD hS (Or.inl ⟨(by rw [Int64.lt_iff_toInt_lt] at c_1 c_2; omega), rfl, rfl⟩) dX9_in_18
set_option maxHeartbeats 4000000 in
set_option maxRecDepth 100000 in
theorem s_X9_isSheet (l : Launch) (D : va_G) (cI cZ cC cS : ClassId) (sq : Nat → Nat) (sz : Nat) (a : Int32) : mI l yX9_isSheet wsX9_isSheet 1 40 D (tyW cI cZ cC cS) sq [] sz [.int a] (fun r w => ((0 ≤ a.toInt ∧ a.toInt ≤ 7) ∧ r = 1 ∧ w = []) ∨ ((a.toInt < 0 ∨ 7 < a.toInt) ∧ r = 0 ∧ w = [])) := by
  refine b_metI (cc := cX9_isSheet) (maxL := 1) (ret := (some .boolean)) (by decide) rfl (Nat.le_of_ble_eq_true rfl) ?_
  intro p e s m below meth c ls A H X hsz hP hK hT hD hA hS hl
  have S : CallFix p m c cX9_isSheet 1 s ([.int a] : List Value).toArray wsX9_isSheet RX9 := X.1
  have hl : lv_has ls 1 [(0, .int a)] := hl
  refine lv_iload_n S.1 S.2.1 dX9_isSheet_0 rfl (lv_at hl 0 rfl) ?_
  refine lv_i2l (v := a.toInt64) S.1 S.2.1 dX9_isSheet_1 rfl ?_
  refine lv_lconst (v := 0) S.1 S.2.1 dX9_isSheet_2 (by decide) ?_
  refine lv_ldc2 (v := (7)) S.1 S.2.1 S.2.2.2.1 (S.2.2.2.2 (.constantLong RX9 61 (7)) (by decide +kernel)) dX9_isSheet_3 ?_
  refine b_ai (wr := []) (b_runS (As := [.long (a.toInt64), .long 0, .long 7]) (s_X9_in l D cI cZ cC cS sq H.size (a.toInt64) (0) (7)) S gX9_isSheet_X9_in rfl hdS_X9_in ⟨Nat.le_of_ble_eq_true rfl, Nat.le_of_ble_eq_true rfl⟩ ⟨Nat.le_of_ble_eq_true rfl, Nat.le_of_ble_eq_true rfl⟩ hK hT hS hA hP hD [] rfl (by decide) rfl hl.1 rfl (Nat.le_of_ble_eq_true rfl) dX9_isSheet_6) hP hD hS hA [] [] rfl rfl (by decide) (by decide) (fun r_1 w_2 H locs hw_3 hP hD hS => ?_)
  rcases hw_3 with ⟨hf_4, rfl, rfl⟩ | ⟨hf_5, rfl, rfl⟩
  · have hf_4 : (0) ≤ a.toInt ∧ a.toInt ≤ (7) := by simp only [Int32.toInt_toInt64] at hf_4; exact hf_4
    exact b_zret S.1 S.2.1 X.2.1 X.2.2.1 rfl hP hD hS (Or.inl ⟨(by first | with_reducible assumption | decide | (and_intros <;> first | with_reducible assumption | (intros; refine Int.le_antisymm ?_ ?_ <;> omega) | omega) | assumption | (rw [show Int32.toInt 0 = 0 from rfl]; omega)), rfl, rfl⟩) dX9_isSheet_9
  · have hf_5 : a.toInt < (0) ∨ (7) < a.toInt := by simp only [Int32.toInt_toInt64] at hf_5; exact hf_5
    exact b_zret S.1 S.2.1 X.2.1 X.2.2.1 rfl hP hD hS (Or.inr (⟨(by first | with_reducible assumption | decide | (and_intros <;> first | with_reducible assumption | (intros; refine Int.le_antisymm ?_ ?_ <;> omega) | omega) | assumption | (rw [show Int32.toInt 0 = 0 from rfl]; omega)), rfl, rfl⟩)) dX9_isSheet_9
set_option maxHeartbeats 4000000 in
set_option maxRecDepth 100000 in
theorem s_X9_isWay (l : Launch) (D : va_G) (cI cZ cC cS : ClassId) (sq : Nat → Nat) (sz : Nat) (a : Int32) : mI l yX9_isWay wsX9_isWay 1 40 D (tyW cI cZ cC cS) sq [] sz [.int a] (fun r w => ((0 ≤ a.toInt ∧ a.toInt ≤ 7) ∧ r = 1 ∧ w = []) ∨ ((a.toInt < 0 ∨ 7 < a.toInt) ∧ r = 0 ∧ w = [])) := by
  refine b_metI (cc := cX9_isWay) (maxL := 1) (ret := (some .boolean)) (by decide) rfl (Nat.le_of_ble_eq_true rfl) ?_
  intro p e s m below meth c ls A H X hsz hP hK hT hD hA hS hl
  have S : CallFix p m c cX9_isWay 1 s ([.int a] : List Value).toArray wsX9_isWay RX9 := X.1
  have hl : lv_has ls 1 [(0, .int a)] := hl
  refine lv_iload_n S.1 S.2.1 dX9_isWay_0 rfl (lv_at hl 0 rfl) ?_
  refine lv_i2l (v := a.toInt64) S.1 S.2.1 dX9_isWay_1 rfl ?_
  refine lv_lconst (v := 0) S.1 S.2.1 dX9_isWay_2 (by decide) ?_
  refine lv_ldc2 (v := (7)) S.1 S.2.1 S.2.2.2.1 (S.2.2.2.2 (.constantLong RX9 61 (7)) (by decide +kernel)) dX9_isWay_3 ?_
  refine b_ai (wr := []) (b_runS (As := [.long (a.toInt64), .long 0, .long 7]) (s_X9_in l D cI cZ cC cS sq H.size (a.toInt64) (0) (7)) S gX9_isWay_X9_in rfl hdS_X9_in ⟨Nat.le_of_ble_eq_true rfl, Nat.le_of_ble_eq_true rfl⟩ ⟨Nat.le_of_ble_eq_true rfl, Nat.le_of_ble_eq_true rfl⟩ hK hT hS hA hP hD [] rfl (by decide) rfl hl.1 rfl (Nat.le_of_ble_eq_true rfl) dX9_isWay_6) hP hD hS hA [] [] rfl rfl (by decide) (by decide) (fun r_1 w_2 H locs hw_3 hP hD hS => ?_)
  rcases hw_3 with ⟨hf_4, rfl, rfl⟩ | ⟨hf_5, rfl, rfl⟩
  · have hf_4 : (0) ≤ a.toInt ∧ a.toInt ≤ (7) := by simp only [Int32.toInt_toInt64] at hf_4; exact hf_4
    exact b_zret S.1 S.2.1 X.2.1 X.2.2.1 rfl hP hD hS (Or.inl ⟨(by first | with_reducible assumption | decide | (and_intros <;> first | with_reducible assumption | (intros; refine Int.le_antisymm ?_ ?_ <;> omega) | omega) | assumption | (rw [show Int32.toInt 0 = 0 from rfl]; omega)), rfl, rfl⟩) dX9_isWay_9
  · have hf_5 : a.toInt < (0) ∨ (7) < a.toInt := by simp only [Int32.toInt_toInt64] at hf_5; exact hf_5
    exact b_zret S.1 S.2.1 X.2.1 X.2.2.1 rfl hP hD hS (Or.inr (⟨(by first | with_reducible assumption | decide | (and_intros <;> first | with_reducible assumption | (intros; refine Int.le_antisymm ?_ ?_ <;> omega) | omega) | assumption | (rw [show Int32.toInt 0 = 0 from rfl]; omega)), rfl, rfl⟩)) dX9_isWay_9
set_option maxHeartbeats 4000000 in
set_option maxRecDepth 100000 in
theorem s_X9_isOwner (l : Launch) (D : va_G) (cI cZ cC cS : ClassId) (sq : Nat → Nat) (sz : Nat) (a : Int32) : mI l yX9_isOwner wsX9_isOwner 1 40 D (tyW cI cZ cC cS) sq [] sz [.int a] (fun r w => ((0 ≤ a.toInt ∧ a.toInt ≤ 5) ∧ r = 1 ∧ w = []) ∨ ((a.toInt < 0 ∨ 5 < a.toInt) ∧ r = 0 ∧ w = [])) := by
  refine b_metI (cc := cX9_isOwner) (maxL := 1) (ret := (some .boolean)) (by decide) rfl (Nat.le_of_ble_eq_true rfl) ?_
  intro p e s m below meth c ls A H X hsz hP hK hT hD hA hS hl
  have S : CallFix p m c cX9_isOwner 1 s ([.int a] : List Value).toArray wsX9_isOwner RX9 := X.1
  have hl : lv_has ls 1 [(0, .int a)] := hl
  refine lv_iload_n S.1 S.2.1 dX9_isOwner_0 rfl (lv_at hl 0 rfl) ?_
  refine lv_i2l (v := a.toInt64) S.1 S.2.1 dX9_isOwner_1 rfl ?_
  refine lv_lconst (v := 0) S.1 S.2.1 dX9_isOwner_2 (by decide) ?_
  refine lv_ldc2 (v := (5)) S.1 S.2.1 S.2.2.2.1 (S.2.2.2.2 (.constantLong RX9 231 (5)) (by decide +kernel)) dX9_isOwner_3 ?_
  refine b_ai (wr := []) (b_runS (As := [.long (a.toInt64), .long 0, .long 5]) (s_X9_in l D cI cZ cC cS sq H.size (a.toInt64) (0) (5)) S gX9_isOwner_X9_in rfl hdS_X9_in ⟨Nat.le_of_ble_eq_true rfl, Nat.le_of_ble_eq_true rfl⟩ ⟨Nat.le_of_ble_eq_true rfl, Nat.le_of_ble_eq_true rfl⟩ hK hT hS hA hP hD [] rfl (by decide) rfl hl.1 rfl (Nat.le_of_ble_eq_true rfl) dX9_isOwner_6) hP hD hS hA [] [] rfl rfl (by decide) (by decide) (fun r_1 w_2 H locs hw_3 hP hD hS => ?_)
  rcases hw_3 with ⟨hf_4, rfl, rfl⟩ | ⟨hf_5, rfl, rfl⟩
  · have hf_4 : (0) ≤ a.toInt ∧ a.toInt ≤ (5) := by simp only [Int32.toInt_toInt64] at hf_4; exact hf_4
    exact b_zret S.1 S.2.1 X.2.1 X.2.2.1 rfl hP hD hS (Or.inl ⟨(by first | with_reducible assumption | decide | (and_intros <;> first | with_reducible assumption | (intros; refine Int.le_antisymm ?_ ?_ <;> omega) | omega) | assumption | (rw [show Int32.toInt 0 = 0 from rfl]; omega)), rfl, rfl⟩) dX9_isOwner_9
  · have hf_5 : a.toInt < (0) ∨ (5) < a.toInt := by simp only [Int32.toInt_toInt64] at hf_5; exact hf_5
    exact b_zret S.1 S.2.1 X.2.1 X.2.2.1 rfl hP hD hS (Or.inr (⟨(by first | with_reducible assumption | decide | (and_intros <;> first | with_reducible assumption | (intros; refine Int.le_antisymm ?_ ?_ <;> omega) | omega) | assumption | (rw [show Int32.toInt 0 = 0 from rfl]; omega)), rfl, rfl⟩)) dX9_isOwner_9
