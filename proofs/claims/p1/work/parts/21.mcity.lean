set_option maxRecDepth 20000 in
theorem ggX9_city_X9_bad : GoodIn wsX9_city wsX9_bad := goodIn_r _ [46, 6, 25, 10, 96, 97, 98, 99, 100, 101, 102, 103, 104, 105, 106, 107, 108, 109, 110, 111, 112, 113, 114, 115, 116, 117, 118, 119, 120, 121, 122, 123, 124] (by decide +kernel) (by decide +kernel)
set_option maxRecDepth 20000 in
theorem gX9_city_X9_bad : GoodIn wsX9_city (wsV RX9 120 RX9 yX9_bad wsX9_bad) := goodIn_app (goodIn_of _ (by decide +kernel)) ggX9_city_X9_bad
set_option maxRecDepth 20000 in
theorem ggX9_city_X9_begin : GoodIn wsX9_city wsX9_begin := goodIn_r _ [17, 18, 19, 20, 6, 21, 22, 23, 16, 24, 25, 26, 7, 27, 28, 29, 30, 31, 32, 33, 34, 35, 36, 37, 38, 96, 97, 98, 99, 100, 101, 102, 103, 104, 105, 106, 107, 108, 109, 110, 111, 112, 113, 114, 115, 116, 117, 118, 119, 120, 121, 122, 123, 124] (by decide +kernel) (by decide +kernel)
set_option maxRecDepth 20000 in
theorem gX9_city_X9_begin : GoodIn wsX9_city (wsV RX9 163 RX9 yX9_begin wsX9_begin) := goodIn_app (goodIn_of _ (by decide +kernel)) ggX9_city_X9_begin
set_option maxRecDepth 20000 in
theorem ggX9_city_X9_name : GoodIn wsX9_city wsX9_name := goodIn_r _ [42, 25, 27, 7, 32, 6, 96, 97, 98, 99, 100, 101, 102, 103, 104, 105, 106, 107, 108, 109, 110, 111, 112, 113, 114, 115, 116, 117, 118, 119, 120, 121, 122, 123, 124] (by decide +kernel) (by decide +kernel)
set_option maxRecDepth 20000 in
theorem gX9_city_X9_name : GoodIn wsX9_city (wsV RX9 150 RX9 yX9_name wsX9_name) := goodIn_app (goodIn_of _ (by decide +kernel)) ggX9_city_X9_name
theorem dX9_city_0 : decode cX9_city 0 = .ok (.aload_n 0, 1) := by decide +kernel
theorem dX9_city_1 : decode cX9_city 1 = .ok (.iconst 0, 1) := by decide +kernel
theorem dX9_city_10 : decode cX9_city 10 = .ok (.istore_n 1, 1) := by decide +kernel
theorem dX9_city_100 : decode cX9_city 100 = .ok (.invokevirtual 150, 3) := by decide +kernel
theorem dX9_city_103 : decode cX9_city 103 = .ok (.ldc2_w 176, 3) := by decide +kernel
theorem dX9_city_106 : decode cX9_city 106 = .ok (.lcmp, 1) := by decide +kernel
theorem dX9_city_107 : decode cX9_city 107 = .ok (.ifCond .ne 10, 3) := by decide +kernel
theorem dX9_city_11 : decode cX9_city 11 = .ok (.iload_n 1, 1) := by decide +kernel
theorem dX9_city_117 : decode cX9_city 117 = .ok (.aload_n 0, 1) := by decide +kernel
theorem dX9_city_118 : decode cX9_city 118 = .ok (.getfield 111, 3) := by decide +kernel
theorem dX9_city_12 : decode cX9_city 12 = .ok (.sipush 192, 3) := by decide +kernel
theorem dX9_city_121 : decode cX9_city 121 = .ok (.ifCond .ne 16, 3) := by decide +kernel
theorem dX9_city_137 : decode cX9_city 137 = .ok (.aload_n 0, 1) := by decide +kernel
theorem dX9_city_138 : decode cX9_city 138 = .ok (.getfield 111, 3) := by decide +kernel
theorem dX9_city_141 : decode cX9_city 141 = .ok (.ifCond .le 19, 3) := by decide +kernel
theorem dX9_city_144 : decode cX9_city 144 = .ok (.aload_n 0, 1) := by decide +kernel
theorem dX9_city_145 : decode cX9_city 145 = .ok (.aload_n 0, 1) := by decide +kernel
theorem dX9_city_146 : decode cX9_city 146 = .ok (.getfield 111, 3) := by decide +kernel
theorem dX9_city_149 : decode cX9_city 149 = .ok (.putfield 181, 3) := by decide +kernel
theorem dX9_city_15 : decode cX9_city 15 = .ok (.if_icmp .ge 32, 3) := by decide +kernel
theorem dX9_city_152 : decode cX9_city 152 = .ok (.ldc 184, 2) := by decide +kernel
theorem dX9_city_154 : decode cX9_city 154 = .ok (.aload_n 0, 1) := by decide +kernel
theorem dX9_city_155 : decode cX9_city 155 = .ok (.getfield 117, 3) := by decide +kernel
theorem dX9_city_158 : decode cX9_city 158 = .ok (.isub, 1) := by decide +kernel
theorem dX9_city_159 : decode cX9_city 159 = .ok (.ireturn, 1) := by decide +kernel
theorem dX9_city_18 : decode cX9_city 18 = .ok (.aload_n 0, 1) := by decide +kernel
theorem dX9_city_19 : decode cX9_city 19 = .ok (.getfield 22, 3) := by decide +kernel
theorem dX9_city_2 : decode cX9_city 2 = .ok (.putfield 53, 3) := by decide +kernel
theorem dX9_city_22 : decode cX9_city 22 = .ok (.iload_n 1, 1) := by decide +kernel
theorem dX9_city_23 : decode cX9_city 23 = .ok (.iload_n 1, 1) := by decide +kernel
theorem dX9_city_24 : decode cX9_city 24 = .ok (.iconst 4, 1) := by decide +kernel
theorem dX9_city_25 : decode cX9_city 25 = .ok (.if_icmp .lt 14, 3) := by decide +kernel
theorem dX9_city_28 : decode cX9_city 28 = .ok (.iload_n 1, 1) := by decide +kernel
theorem dX9_city_29 : decode cX9_city 29 = .ok (.bipush 84, 2) := by decide +kernel
theorem dX9_city_31 : decode cX9_city 31 = .ok (.if_icmp .ge 8, 3) := by decide +kernel
theorem dX9_city_34 : decode cX9_city 34 = .ok (.bipush (-2), 2) := by decide +kernel
theorem dX9_city_36 : decode cX9_city 36 = .ok (.goto 4, 3) := by decide +kernel
theorem dX9_city_39 : decode cX9_city 39 = .ok (.iconst 0, 1) := by decide +kernel
theorem dX9_city_40 : decode cX9_city 40 = .ok (.iastore, 1) := by decide +kernel
theorem dX9_city_41 : decode cX9_city 41 = .ok (.iinc 1 1, 3) := by decide +kernel
theorem dX9_city_44 : decode cX9_city 44 = .ok (.goto (-33), 3) := by decide +kernel
theorem dX9_city_47 : decode cX9_city 47 = .ok (.aload_n 0, 1) := by decide +kernel
theorem dX9_city_48 : decode cX9_city 48 = .ok (.invokevirtual 150, 3) := by decide +kernel
theorem dX9_city_5 : decode cX9_city 5 = .ok (.aload_n 0, 1) := by decide +kernel
theorem dX9_city_51 : decode cX9_city 51 = .ok (.ldc2_w 166, 3) := by decide +kernel
theorem dX9_city_54 : decode cX9_city 54 = .ok (.lcmp, 1) := by decide +kernel
theorem dX9_city_55 : decode cX9_city 55 = .ok (.ifCond .eq 8, 3) := by decide +kernel
theorem dX9_city_58 : decode cX9_city 58 = .ok (.aload_n 0, 1) := by decide +kernel
theorem dX9_city_59 : decode cX9_city 59 = .ok (.iconst 1, 1) := by decide +kernel
theorem dX9_city_6 : decode cX9_city 6 = .ok (.invokevirtual 163, 3) := by decide +kernel
theorem dX9_city_60 : decode cX9_city 60 = .ok (.invokevirtual 120, 3) := by decide +kernel
theorem dX9_city_63 : decode cX9_city 63 = .ok (.aload_n 0, 1) := by decide +kernel
theorem dX9_city_64 : decode cX9_city 64 = .ok (.invokevirtual 150, 3) := by decide +kernel
theorem dX9_city_67 : decode cX9_city 67 = .ok (.ldc2_w 166, 3) := by decide +kernel
theorem dX9_city_70 : decode cX9_city 70 = .ok (.lcmp, 1) := by decide +kernel
theorem dX9_city_71 : decode cX9_city 71 = .ok (.ifCond .ne 10, 3) := by decide +kernel
theorem dX9_city_81 : decode cX9_city 81 = .ok (.aload_n 0, 1) := by decide +kernel
theorem dX9_city_82 : decode cX9_city 82 = .ok (.invokevirtual 150, 3) := by decide +kernel
theorem dX9_city_85 : decode cX9_city 85 = .ok (.ldc2_w 171, 3) := by decide +kernel
theorem dX9_city_88 : decode cX9_city 88 = .ok (.lcmp, 1) := by decide +kernel
theorem dX9_city_89 : decode cX9_city 89 = .ok (.ifCond .ne 10, 3) := by decide +kernel
theorem dX9_city_9 : decode cX9_city 9 = .ok (.iconst 0, 1) := by decide +kernel
theorem dX9_city_99 : decode cX9_city 99 = .ok (.aload_n 0, 1) := by decide +kernel
theorem jX9_city_X9 : ∀ w ∈ u_ws RX9 TX9 29, w ∈ wsX9_city := fun w h => List.mem_cons_of_mem _ (List.mem_append_right _ h)
theorem hdV_X9_bad : yX9_bad.cls = RX9 ∧ yX9_bad.cls ≠ "java/lang/invoke/MethodHandle" ∧ yX9_bad.cls ≠ "java/lang/invoke/VarHandle" ∧ (parseMethodDescriptor yX9_bad.desc).map (fun d => d.parameters.length) = some 1 := by decide +kernel
theorem hdV_X9_begin : yX9_begin.cls = RX9 ∧ yX9_begin.cls ≠ "java/lang/invoke/MethodHandle" ∧ yX9_begin.cls ≠ "java/lang/invoke/VarHandle" ∧ (parseMethodDescriptor yX9_begin.desc).map (fun d => d.parameters.length) = some 0 := by decide +kernel
theorem hdV_X9_name : yX9_name.cls = RX9 ∧ yX9_name.cls ≠ "java/lang/invoke/MethodHandle" ∧ yX9_name.cls ≠ "java/lang/invoke/VarHandle" ∧ (parseMethodDescriptor yX9_name.desc).map (fun d => d.parameters.length) = some 0 := by decide +kernel
set_option maxHeartbeats 4000000 in
set_option maxRecDepth 100000 in
theorem lp_X9_city {p : Program} (l : Launch) {e : Env} {s : State} {m : MethodId} {below : List Frame} {meth : Method} {c : Code} (D : va_G) (cI cZ cC cS : ClassId) (sq : Nat) (y : Nat) (y_lane : Nat) (y_many : Nat) (y_item : Nat) (y_city : Nat) (y_fresh : Nat) (y_tape : Nat) (y_cost : Nat) (y_away : Nat) (y_fee : Nat) (y_goesTo : Nat) (y_priceWas : Nat) (y_isKept : Nat) (y_kept : Nat) (y_trace : Nat) {A : Nat → Prop} (X : bX p s m meth c cX9_city 2 wsX9_city yX9_city (some .int) [.ref y]) (hK : kW D (tyW cI cZ cC cS) sq s) (hA : ∀ q, s.heap.size ≤ q → A q) :
    ∀ (k i : Nat), i + k = 192 → ∀ (H : Heap) (locs : List Loc) (ls : Array Slot) (f : Nat → Int32), va_P D vwCl [(y, .inr (9, [.int 0, .int 0, .ref y_lane, .ref y_many, .ref y_item, .ref y_city, .ref y_fresh, .int 0, .ref y_tape, .int 0, .int 0, .int 0, .int 0, .int 1, .int 0, .int 0, .int 0, .int 0, .int 0, .int 0, .ref y_cost, .ref y_away, .ref y_fee, .ref y_goesTo, .ref y_priceWas, .ref y_isKept, .ref y_kept, .ref y_trace, .int 0])), (y_fresh, .inl (cI, 192, .inl f))] H → va_D A [(y, .inr (9, [.int 0, .int 0, .ref y_lane, .ref y_many, .ref y_item, .ref y_city, .ref y_fresh, .int 0, .ref y_tape, .int 0, .int 0, .int 0, .int 0, .int 1, .int 0, .int 0, .int 0, .int 0, .int 0, .int 0, .ref y_cost, .ref y_away, .ref y_fee, .ref y_goesTo, .ref y_priceWas, .ref y_isKept, .ref y_kept, .ref y_trace, .int 0])), (y_fresh, .inl (cI, 192, .inl f))] → va_S A s.heap H locs → lv_has ls 2 [(1, .int (nI i)), (0, .ref y)] →
      W p l e (rmW 4 100 0 0) s m ([.ref y] : List Value).toArray below meth c H locs 0 0 (MQ below (va_Qi (fun r w => r = -1000100 ∧ w = []) (wD D A) A) ([.ref y] : List Value).toArray s 0 0 A) (F0 m 11 ls []) := by
  have S : CallFix p m c cX9_city 2 s ([.ref y] : List Value).toArray wsX9_city RX9 := X.1
  have iX9 := jX9_city_X9
  intro k
  induction k with
  | zero =>
    intro i hi H locs ls f hP hD hS hl
    obtain rfl : i = 192 := by omega
    refine lv_iload_n S.1 S.2.1 dX9_city_11 rfl (lv_at hl 0 rfl) ?_
    refine lv_sipush (v := 192) S.1 S.2.1 dX9_city_12 (by decide) ?_
    refine lv_icmp_ge (tgt := 47) S.1 S.2.1 dX9_city_15 (by decide) (fun c_1 => ?_) (fun c_1 => absurd (show (192 : Int32) ≤ nI 192 from by decide) c_1)
    refine lv_aload_n S.1 S.2.1 dX9_city_47 rfl (lv_at hl 1 rfl) ?_
    refine b_al (wr := [(y_fresh, .inl (cI, 192, .inl f))]) (b_runV (q0 := 0) (ci := 9) (As := []) (c_X9_name_0 l D cI cZ cC cS sq H.size y y_lane y_many y_item y_city y_fresh y_tape y_cost y_away y_fee y_goesTo y_priceWas y_isKept y_kept y_trace) S gX9_city_X9_name rfl hdV_X9_name ⟨Nat.le_of_ble_eq_true rfl, Nat.le_of_ble_eq_true rfl⟩ ⟨Nat.le_of_ble_eq_true rfl, Nat.le_of_ble_eq_true rfl⟩ hK hP hD rfl rfl [0] rfl (by decide) rfl hl.1 rfl (Nat.le_of_ble_eq_true rfl) dX9_city_48) hP hD hS hA [0] [1] rfl rfl (by decide) (by decide) (fun r_2 w_3 H locs hw_4 hP hD hS => ?_)
    obtain ⟨rfl, rfl⟩ := hw_4
    have hP : va_P D vwCl [(y_fresh, .inl (cI, 192, .inl f)), (y, .inr (9, [.int 0, .int 0, .ref y_lane, .ref y_many, .ref y_item, .ref y_city, .ref y_fresh, .int 0, .ref y_tape, .int 0, .int 0, .int 0, .int 0, .int 1, .int 0, .int 0, .int 0, .int 0, .int 0, .int 0, .ref y_cost, .ref y_away, .ref y_fee, .ref y_goesTo, .ref y_priceWas, .ref y_isKept, .ref y_kept, .ref y_trace, .int 0]))] H := hP
    have hD : va_D A [(y_fresh, .inl (cI, 192, .inl f)), (y, .inr (9, [.int 0, .int 0, .ref y_lane, .ref y_many, .ref y_item, .ref y_city, .ref y_fresh, .int 0, .ref y_tape, .int 0, .int 0, .int 0, .int 0, .int 1, .int 0, .int 0, .int 0, .int 0, .int 0, .int 0, .ref y_cost, .ref y_away, .ref y_fee, .ref y_goesTo, .ref y_priceWas, .ref y_isKept, .ref y_kept, .ref y_trace, .int 0]))] := hD
    refine lv_ldc2 (v := (7499639)) S.1 S.2.1 S.2.2.2.1 (S.2.2.2.2 (.constantLong RX9 166 (7499639)) (by decide +kernel)) dX9_city_51 ?_
    refine W.lcmp S.1 S.2.1 dX9_city_54 ?_
    refine lv_topi (fun x_5 ex_5 => ?_)
    have ex_5 : x_5 = -1 := by rw [ex_5]; decide
    subst ex_5
    refine lv_if_eq (tgt := 63) S.1 S.2.1 dX9_city_55 (by decide) (fun c_6 => absurd c_6 (by decide)) (fun c_6 => ?_)
    refine lv_aload_n S.1 S.2.1 dX9_city_58 rfl (lv_at hl 1 rfl) ?_
    refine lv_iconst (v := 1) S.1 S.2.1 dX9_city_59 (by decide) ?_
    refine b_av (wr := [(y_fresh, .inl (cI, 192, .inl f))]) (b_runV (q0 := 1) (ci := 9) (As := [.int 1]) (c_X9_bad_1 l D cI cZ cC cS sq H.size y y_lane y_many y_item y_city y_fresh y_tape y_cost y_away y_fee y_goesTo y_priceWas y_isKept y_kept y_trace) S gX9_city_X9_bad rfl hdV_X9_bad ⟨Nat.le_of_ble_eq_true rfl, Nat.le_of_ble_eq_true rfl⟩ ⟨Nat.le_of_ble_eq_true rfl, Nat.le_of_ble_eq_true rfl⟩ hK hP hD rfl rfl [1] rfl (by decide) rfl hl.1 rfl (Nat.le_of_ble_eq_true rfl) dX9_city_60) hP hD hS hA [1] [0] rfl rfl (by decide) (by decide) (fun w_8 H locs hw_9 hP hD hS => ?_)
    subst hw_9
    have hP : va_P D vwCl [(y_fresh, .inl (cI, 192, .inl f)), (y, .inr (9, [.int 0, .int 0, .ref y_lane, .ref y_many, .ref y_item, .ref y_city, .ref y_fresh, .int 0, .ref y_tape, .int 0, .int 0, .int 0, .int 0, .int 1, .int 0, .int 0, .int 1, .int 0, .int 0, .int 0, .ref y_cost, .ref y_away, .ref y_fee, .ref y_goesTo, .ref y_priceWas, .ref y_isKept, .ref y_kept, .ref y_trace, .int 0]))] H := hP
    have hD : va_D A [(y_fresh, .inl (cI, 192, .inl f)), (y, .inr (9, [.int 0, .int 0, .ref y_lane, .ref y_many, .ref y_item, .ref y_city, .ref y_fresh, .int 0, .ref y_tape, .int 0, .int 0, .int 0, .int 0, .int 1, .int 0, .int 0, .int 1, .int 0, .int 0, .int 0, .ref y_cost, .ref y_away, .ref y_fee, .ref y_goesTo, .ref y_priceWas, .ref y_isKept, .ref y_kept, .ref y_trace, .int 0]))] := hD
    refine lv_aload_n S.1 S.2.1 dX9_city_63 rfl (lv_at hl 1 rfl) ?_
    refine b_al (wr := [(y_fresh, .inl (cI, 192, .inl f))]) (b_runV (q0 := 1) (ci := 9) (As := []) (c_X9_name_1 l D cI cZ cC cS sq H.size y y_lane y_many y_item y_city y_fresh y_tape y_cost y_away y_fee y_goesTo y_priceWas y_isKept y_kept y_trace) S gX9_city_X9_name rfl hdV_X9_name ⟨Nat.le_of_ble_eq_true rfl, Nat.le_of_ble_eq_true rfl⟩ ⟨Nat.le_of_ble_eq_true rfl, Nat.le_of_ble_eq_true rfl⟩ hK hP hD rfl rfl [1] rfl (by decide) rfl hl.1 rfl (Nat.le_of_ble_eq_true rfl) dX9_city_64) hP hD hS hA [1] [0] rfl rfl (by decide) (by decide) (fun r_10 w_11 H locs hw_12 hP hD hS => ?_)
    obtain ⟨rfl, rfl⟩ := hw_12
    have hP : va_P D vwCl [(y_fresh, .inl (cI, 192, .inl f)), (y, .inr (9, [.int 0, .int 0, .ref y_lane, .ref y_many, .ref y_item, .ref y_city, .ref y_fresh, .int 0, .ref y_tape, .int 0, .int 0, .int 0, .int 0, .int 1, .int 0, .int 0, .int 1, .int 0, .int 0, .int 0, .ref y_cost, .ref y_away, .ref y_fee, .ref y_goesTo, .ref y_priceWas, .ref y_isKept, .ref y_kept, .ref y_trace, .int 0]))] H := hP
    have hD : va_D A [(y_fresh, .inl (cI, 192, .inl f)), (y, .inr (9, [.int 0, .int 0, .ref y_lane, .ref y_many, .ref y_item, .ref y_city, .ref y_fresh, .int 0, .ref y_tape, .int 0, .int 0, .int 0, .int 0, .int 1, .int 0, .int 0, .int 1, .int 0, .int 0, .int 0, .ref y_cost, .ref y_away, .ref y_fee, .ref y_goesTo, .ref y_priceWas, .ref y_isKept, .ref y_kept, .ref y_trace, .int 0]))] := hD
    refine lv_ldc2 (v := (7499639)) S.1 S.2.1 S.2.2.2.1 (S.2.2.2.2 (.constantLong RX9 166 (7499639)) (by decide +kernel)) dX9_city_67 ?_
    refine W.lcmp S.1 S.2.1 dX9_city_70 ?_
    refine lv_topi (fun x_13 ex_13 => ?_)
    have ex_13 : x_13 = -1 := by rw [ex_13]; decide
    subst ex_13
    refine lv_if_ne (tgt := 81) S.1 S.2.1 dX9_city_71 (by decide) (fun c_14 => ?_) (fun c_14 => absurd c_14 (by decide))
    refine lv_aload_n S.1 S.2.1 dX9_city_81 rfl (lv_at hl 1 rfl) ?_
    refine b_al (wr := [(y_fresh, .inl (cI, 192, .inl f))]) (b_runV (q0 := 1) (ci := 9) (As := []) (c_X9_name_1 l D cI cZ cC cS sq H.size y y_lane y_many y_item y_city y_fresh y_tape y_cost y_away y_fee y_goesTo y_priceWas y_isKept y_kept y_trace) S gX9_city_X9_name rfl hdV_X9_name ⟨Nat.le_of_ble_eq_true rfl, Nat.le_of_ble_eq_true rfl⟩ ⟨Nat.le_of_ble_eq_true rfl, Nat.le_of_ble_eq_true rfl⟩ hK hP hD rfl rfl [1] rfl (by decide) rfl hl.1 rfl (Nat.le_of_ble_eq_true rfl) dX9_city_82) hP hD hS hA [1] [0] rfl rfl (by decide) (by decide) (fun r_15 w_16 H locs hw_17 hP hD hS => ?_)
    obtain ⟨rfl, rfl⟩ := hw_17
    have hP : va_P D vwCl [(y_fresh, .inl (cI, 192, .inl f)), (y, .inr (9, [.int 0, .int 0, .ref y_lane, .ref y_many, .ref y_item, .ref y_city, .ref y_fresh, .int 0, .ref y_tape, .int 0, .int 0, .int 0, .int 0, .int 1, .int 0, .int 0, .int 1, .int 0, .int 0, .int 0, .ref y_cost, .ref y_away, .ref y_fee, .ref y_goesTo, .ref y_priceWas, .ref y_isKept, .ref y_kept, .ref y_trace, .int 0]))] H := hP
    have hD : va_D A [(y_fresh, .inl (cI, 192, .inl f)), (y, .inr (9, [.int 0, .int 0, .ref y_lane, .ref y_many, .ref y_item, .ref y_city, .ref y_fresh, .int 0, .ref y_tape, .int 0, .int 0, .int 0, .int 0, .int 1, .int 0, .int 0, .int 1, .int 0, .int 0, .int 0, .ref y_cost, .ref y_away, .ref y_fee, .ref y_goesTo, .ref y_priceWas, .ref y_isKept, .ref y_kept, .ref y_trace, .int 0]))] := hD
    refine lv_ldc2 (v := (482955846501)) S.1 S.2.1 S.2.2.2.1 (S.2.2.2.2 (.constantLong RX9 171 (482955846501)) (by decide +kernel)) dX9_city_85 ?_
    refine W.lcmp S.1 S.2.1 dX9_city_88 ?_
    refine lv_topi (fun x_18 ex_18 => ?_)
    have ex_18 : x_18 = -1 := by rw [ex_18]; decide
    subst ex_18
    refine lv_if_ne (tgt := 99) S.1 S.2.1 dX9_city_89 (by decide) (fun c_19 => ?_) (fun c_19 => absurd c_19 (by decide))
    refine lv_aload_n S.1 S.2.1 dX9_city_99 rfl (lv_at hl 1 rfl) ?_
    refine b_al (wr := [(y_fresh, .inl (cI, 192, .inl f))]) (b_runV (q0 := 1) (ci := 9) (As := []) (c_X9_name_1 l D cI cZ cC cS sq H.size y y_lane y_many y_item y_city y_fresh y_tape y_cost y_away y_fee y_goesTo y_priceWas y_isKept y_kept y_trace) S gX9_city_X9_name rfl hdV_X9_name ⟨Nat.le_of_ble_eq_true rfl, Nat.le_of_ble_eq_true rfl⟩ ⟨Nat.le_of_ble_eq_true rfl, Nat.le_of_ble_eq_true rfl⟩ hK hP hD rfl rfl [1] rfl (by decide) rfl hl.1 rfl (Nat.le_of_ble_eq_true rfl) dX9_city_100) hP hD hS hA [1] [0] rfl rfl (by decide) (by decide) (fun r_20 w_21 H locs hw_22 hP hD hS => ?_)
    obtain ⟨rfl, rfl⟩ := hw_22
    have hP : va_P D vwCl [(y_fresh, .inl (cI, 192, .inl f)), (y, .inr (9, [.int 0, .int 0, .ref y_lane, .ref y_many, .ref y_item, .ref y_city, .ref y_fresh, .int 0, .ref y_tape, .int 0, .int 0, .int 0, .int 0, .int 1, .int 0, .int 0, .int 1, .int 0, .int 0, .int 0, .ref y_cost, .ref y_away, .ref y_fee, .ref y_goesTo, .ref y_priceWas, .ref y_isKept, .ref y_kept, .ref y_trace, .int 0]))] H := hP
    have hD : va_D A [(y_fresh, .inl (cI, 192, .inl f)), (y, .inr (9, [.int 0, .int 0, .ref y_lane, .ref y_many, .ref y_item, .ref y_city, .ref y_fresh, .int 0, .ref y_tape, .int 0, .int 0, .int 0, .int 0, .int 1, .int 0, .int 0, .int 1, .int 0, .int 0, .int 0, .ref y_cost, .ref y_away, .ref y_fee, .ref y_goesTo, .ref y_priceWas, .ref y_isKept, .ref y_kept, .ref y_trace, .int 0]))] := hD
    refine lv_ldc2 (v := (123581014175598)) S.1 S.2.1 S.2.2.2.1 (S.2.2.2.2 (.constantLong RX9 176 (123581014175598)) (by decide +kernel)) dX9_city_103 ?_
    refine W.lcmp S.1 S.2.1 dX9_city_106 ?_
    refine lv_topi (fun x_23 ex_23 => ?_)
    have ex_23 : x_23 = -1 := by rw [ex_23]; decide
    subst ex_23
    refine lv_if_ne (tgt := 117) S.1 S.2.1 dX9_city_107 (by decide) (fun c_24 => ?_) (fun c_24 => absurd c_24 (by decide))
    refine lv_aload_n S.1 S.2.1 dX9_city_117 rfl (lv_at hl 1 rfl) ?_
    refine b_get (v := .int 1) S iX9 hK hP 1 rfl rfl 16 (by decide) (by decide +kernel) rfl dX9_city_118 ?_
    refine lv_if_ne (tgt := 137) S.1 S.2.1 dX9_city_121 (by decide) (fun c_25 => ?_) (fun c_25 => absurd c_25 (by decide))
    refine lv_aload_n S.1 S.2.1 dX9_city_137 rfl (lv_at hl 1 rfl) ?_
    refine b_get (v := .int 1) S iX9 hK hP 1 rfl rfl 16 (by decide) (by decide +kernel) rfl dX9_city_138 ?_
    refine lv_if_le (tgt := 160) S.1 S.2.1 dX9_city_141 (by decide) (fun c_26 => absurd c_26 (by decide)) (fun c_26 => ?_)
    refine lv_aload_n S.1 S.2.1 dX9_city_144 rfl (lv_at hl 1 rfl) ?_
    refine lv_aload_n S.1 S.2.1 dX9_city_145 rfl (lv_at hl 1 rfl) ?_
    refine b_get (v := .int 1) S iX9 hK hP 1 rfl rfl 16 (by decide) (by decide +kernel) rfl dX9_city_146 ?_
    refine b_put (v := .int 1) S iX9 tyX9 tyX9_ok nmX9 hK hP hD hS 1 rfl rfl 10 (by decide) (by decide +kernel) rfl rfl rfl (Nat.le_of_ble_eq_true rfl) dX9_city_149 (fun H locs hP hD hS => ?_)
    have hP : va_P D vwCl [(y_fresh, .inl (cI, 192, .inl f)), (y, .inr (9, [.int 0, .int 0, .ref y_lane, .ref y_many, .ref y_item, .ref y_city, .ref y_fresh, .int 0, .ref y_tape, .int 0, .int 1, .int 0, .int 0, .int 1, .int 0, .int 0, .int 1, .int 0, .int 0, .int 0, .ref y_cost, .ref y_away, .ref y_fee, .ref y_goesTo, .ref y_priceWas, .ref y_isKept, .ref y_kept, .ref y_trace, .int 0]))] H := hP
    have hD : va_D A [(y_fresh, .inl (cI, 192, .inl f)), (y, .inr (9, [.int 0, .int 0, .ref y_lane, .ref y_many, .ref y_item, .ref y_city, .ref y_fresh, .int 0, .ref y_tape, .int 0, .int 1, .int 0, .int 0, .int 1, .int 0, .int 0, .int 1, .int 0, .int 0, .int 0, .ref y_cost, .ref y_away, .ref y_fee, .ref y_goesTo, .ref y_priceWas, .ref y_isKept, .ref y_kept, .ref y_trace, .int 0]))] := hD
    refine lv_ldc (v := (-1000100)) S.1 S.2.1 S.2.2.2.1 (S.2.2.2.2 (.constant RX9 184 (-1000100)) (by decide +kernel)) dX9_city_152 ?_
    refine lv_aload_n S.1 S.2.1 dX9_city_154 rfl (lv_at hl 1 rfl) ?_
    refine b_get (v := .int 0) S iX9 hK hP 1 rfl rfl 17 (by decide) (by decide +kernel) rfl dX9_city_155 ?_
    refine lv_isub S.1 S.2.1 dX9_city_158 ?_
    refine lv_topi (fun x_27 ex_27 => ?_)
    have ex_27 : x_27 = -1000100 := by rw [ex_27]; decide
    subst ex_27
    have hP := hP.sub (ws' := []) [] rfl
    have hD := hD.sub (ws' := []) [] (by decide) rfl
    exact b_iret S.1 S.2.1 X.2.1 X.2.2.1 hP hD hS ⟨rfl, rfl⟩ dX9_city_159
  | succ k ih =>
    intro i hi H locs ls f hP hD hS hl
    have hlt : i < 192 := by omega
    rcases (show (i < 4) ∨ (4 ≤ i ∧ i < 84) ∨ (84 ≤ i) by omega) with hc | hc | hc
    · refine lv_iload_n S.1 S.2.1 dX9_city_11 rfl (lv_at hl 0 rfl) ?_
      refine lv_sipush (v := 192) S.1 S.2.1 dX9_city_12 (by decide) ?_
      refine lv_icmp_ge (tgt := 47) S.1 S.2.1 dX9_city_15 (by decide) (fun c_1 => absurd c_1 (nI_ge (b := 192) hlt (by decide))) (fun c_1 => ?_)
      refine lv_aload_n S.1 S.2.1 dX9_city_18 rfl (lv_at hl 1 rfl) ?_
      refine b_get (v := .ref y_fresh) S iX9 hK hP 0 rfl rfl 6 (by decide) (by decide +kernel) rfl dX9_city_19 ?_
      refine lv_iload_n S.1 S.2.1 dX9_city_22 rfl (lv_at hl 0 rfl) ?_
      refine lv_iload_n S.1 S.2.1 dX9_city_23 rfl (lv_at hl 0 rfl) ?_
      refine lv_iconst (v := 4) S.1 S.2.1 dX9_city_24 (by decide) ?_
      refine lv_icmp_lt (tgt := 39) S.1 S.2.1 dX9_city_25 (by decide) (fun c_2 => ?_) (fun c_2 => absurd (nI_lt (b := 4) hc (by decide)) c_2)
      refine lv_iconst (v := 0) S.1 S.2.1 dX9_city_39 (by decide) ?_
      refine va_iast S.1 S.2.1 hK.1 hP hD hS 1 0 rfl rfl (nI_in hlt (by decide)) dX9_city_40 (fun H locs hP hD hS => ?_)
      have hP : va_P D vwCl [(y, .inr (9, [.int 0, .int 0, .ref y_lane, .ref y_many, .ref y_item, .ref y_city, .ref y_fresh, .int 0, .ref y_tape, .int 0, .int 0, .int 0, .int 0, .int 1, .int 0, .int 0, .int 0, .int 0, .int 0, .int 0, .ref y_cost, .ref y_away, .ref y_fee, .ref y_goesTo, .ref y_priceWas, .ref y_isKept, .ref y_kept, .ref y_trace, .int 0])), (y_fresh, .inl (cI, 192, .inl (upd f (nI i).toNatClampNeg (0))))] H := hP
      have hD : va_D A [(y, .inr (9, [.int 0, .int 0, .ref y_lane, .ref y_many, .ref y_item, .ref y_city, .ref y_fresh, .int 0, .ref y_tape, .int 0, .int 0, .int 0, .int 0, .int 1, .int 0, .int 0, .int 0, .int 0, .int 0, .int 0, .ref y_cost, .ref y_away, .ref y_fee, .ref y_goesTo, .ref y_priceWas, .ref y_isKept, .ref y_kept, .ref y_trace, .int 0])), (y_fresh, .inl (cI, 192, .inl (upd f (nI i).toNatClampNeg (0))))] := hD
      generalize (upd f (nI i).toNatClampNeg (0)) = f_3 at hP hD
      refine lv_iinc (v := nI (i + 1)) (lv' := [(1, .int (nI (i + 1))), (0, .ref y)]) S.1 S.2.1 dX9_city_41 hl (k := 0) rfl (nI_1 i) (by decide) rfl (fun ls hl => ?_)
      refine lv_goto (tgt := 11) S.1 S.2.1 dX9_city_44 (by decide) ?_
      exact ih (i + 1) (by omega) H locs ls _ hP hD hS (lv_sub hl [0, 1] rfl)
    · refine lv_iload_n S.1 S.2.1 dX9_city_11 rfl (lv_at hl 0 rfl) ?_
      refine lv_sipush (v := 192) S.1 S.2.1 dX9_city_12 (by decide) ?_
      refine lv_icmp_ge (tgt := 47) S.1 S.2.1 dX9_city_15 (by decide) (fun c_1 => absurd c_1 (nI_ge (b := 192) hlt (by decide))) (fun c_1 => ?_)
      refine lv_aload_n S.1 S.2.1 dX9_city_18 rfl (lv_at hl 1 rfl) ?_
      refine b_get (v := .ref y_fresh) S iX9 hK hP 0 rfl rfl 6 (by decide) (by decide +kernel) rfl dX9_city_19 ?_
      refine lv_iload_n S.1 S.2.1 dX9_city_22 rfl (lv_at hl 0 rfl) ?_
      refine lv_iload_n S.1 S.2.1 dX9_city_23 rfl (lv_at hl 0 rfl) ?_
      refine lv_iconst (v := 4) S.1 S.2.1 dX9_city_24 (by decide) ?_
      refine lv_icmp_lt (tgt := 39) S.1 S.2.1 dX9_city_25 (by decide) (fun c_2 => absurd c_2 (nI_nlt (b := 4) hc.1 (by omega))) (fun c_2 => ?_)
      refine lv_iload_n S.1 S.2.1 dX9_city_28 rfl (lv_at hl 0 rfl) ?_
      refine lv_bipush (v := 84) S.1 S.2.1 dX9_city_29 (by decide) ?_
      refine lv_icmp_ge (tgt := 39) S.1 S.2.1 dX9_city_31 (by decide) (fun c_3 => absurd c_3 (nI_ge (b := 84) hc.2 (by decide))) (fun c_3 => ?_)
      refine lv_bipush (v := (-2)) S.1 S.2.1 dX9_city_34 (by decide) ?_
      refine lv_goto (tgt := 40) S.1 S.2.1 dX9_city_36 (by decide) ?_
      refine va_iast S.1 S.2.1 hK.1 hP hD hS 1 0 rfl rfl (nI_in hlt (by decide)) dX9_city_40 (fun H locs hP hD hS => ?_)
      have hP : va_P D vwCl [(y, .inr (9, [.int 0, .int 0, .ref y_lane, .ref y_many, .ref y_item, .ref y_city, .ref y_fresh, .int 0, .ref y_tape, .int 0, .int 0, .int 0, .int 0, .int 1, .int 0, .int 0, .int 0, .int 0, .int 0, .int 0, .ref y_cost, .ref y_away, .ref y_fee, .ref y_goesTo, .ref y_priceWas, .ref y_isKept, .ref y_kept, .ref y_trace, .int 0])), (y_fresh, .inl (cI, 192, .inl (upd f (nI i).toNatClampNeg (-2))))] H := hP
      have hD : va_D A [(y, .inr (9, [.int 0, .int 0, .ref y_lane, .ref y_many, .ref y_item, .ref y_city, .ref y_fresh, .int 0, .ref y_tape, .int 0, .int 0, .int 0, .int 0, .int 1, .int 0, .int 0, .int 0, .int 0, .int 0, .int 0, .ref y_cost, .ref y_away, .ref y_fee, .ref y_goesTo, .ref y_priceWas, .ref y_isKept, .ref y_kept, .ref y_trace, .int 0])), (y_fresh, .inl (cI, 192, .inl (upd f (nI i).toNatClampNeg (-2))))] := hD
      generalize (upd f (nI i).toNatClampNeg (-2)) = f_4 at hP hD
      refine lv_iinc (v := nI (i + 1)) (lv' := [(1, .int (nI (i + 1))), (0, .ref y)]) S.1 S.2.1 dX9_city_41 hl (k := 0) rfl (nI_1 i) (by decide) rfl (fun ls hl => ?_)
      refine lv_goto (tgt := 11) S.1 S.2.1 dX9_city_44 (by decide) ?_
      exact ih (i + 1) (by omega) H locs ls _ hP hD hS (lv_sub hl [0, 1] rfl)
    · refine lv_iload_n S.1 S.2.1 dX9_city_11 rfl (lv_at hl 0 rfl) ?_
      refine lv_sipush (v := 192) S.1 S.2.1 dX9_city_12 (by decide) ?_
      refine lv_icmp_ge (tgt := 47) S.1 S.2.1 dX9_city_15 (by decide) (fun c_1 => absurd c_1 (nI_ge (b := 192) hlt (by decide))) (fun c_1 => ?_)
      refine lv_aload_n S.1 S.2.1 dX9_city_18 rfl (lv_at hl 1 rfl) ?_
      refine b_get (v := .ref y_fresh) S iX9 hK hP 0 rfl rfl 6 (by decide) (by decide +kernel) rfl dX9_city_19 ?_
      refine lv_iload_n S.1 S.2.1 dX9_city_22 rfl (lv_at hl 0 rfl) ?_
      refine lv_iload_n S.1 S.2.1 dX9_city_23 rfl (lv_at hl 0 rfl) ?_
      refine lv_iconst (v := 4) S.1 S.2.1 dX9_city_24 (by decide) ?_
      refine lv_icmp_lt (tgt := 39) S.1 S.2.1 dX9_city_25 (by decide) (fun c_2 => absurd c_2 (nI_nlt (b := 4) (by omega) (by omega))) (fun c_2 => ?_)
      refine lv_iload_n S.1 S.2.1 dX9_city_28 rfl (lv_at hl 0 rfl) ?_
      refine lv_bipush (v := 84) S.1 S.2.1 dX9_city_29 (by decide) ?_
      refine lv_icmp_ge (tgt := 39) S.1 S.2.1 dX9_city_31 (by decide) (fun c_3 => ?_) (fun c_3 => absurd (nI_le (a := 84) hc (by omega)) c_3)
      refine lv_iconst (v := 0) S.1 S.2.1 dX9_city_39 (by decide) ?_
      refine va_iast S.1 S.2.1 hK.1 hP hD hS 1 0 rfl rfl (nI_in hlt (by decide)) dX9_city_40 (fun H locs hP hD hS => ?_)
      have hP : va_P D vwCl [(y, .inr (9, [.int 0, .int 0, .ref y_lane, .ref y_many, .ref y_item, .ref y_city, .ref y_fresh, .int 0, .ref y_tape, .int 0, .int 0, .int 0, .int 0, .int 1, .int 0, .int 0, .int 0, .int 0, .int 0, .int 0, .ref y_cost, .ref y_away, .ref y_fee, .ref y_goesTo, .ref y_priceWas, .ref y_isKept, .ref y_kept, .ref y_trace, .int 0])), (y_fresh, .inl (cI, 192, .inl (upd f (nI i).toNatClampNeg (0))))] H := hP
      have hD : va_D A [(y, .inr (9, [.int 0, .int 0, .ref y_lane, .ref y_many, .ref y_item, .ref y_city, .ref y_fresh, .int 0, .ref y_tape, .int 0, .int 0, .int 0, .int 0, .int 1, .int 0, .int 0, .int 0, .int 0, .int 0, .int 0, .ref y_cost, .ref y_away, .ref y_fee, .ref y_goesTo, .ref y_priceWas, .ref y_isKept, .ref y_kept, .ref y_trace, .int 0])), (y_fresh, .inl (cI, 192, .inl (upd f (nI i).toNatClampNeg (0))))] := hD
      generalize (upd f (nI i).toNatClampNeg (0)) = f_4 at hP hD
      refine lv_iinc (v := nI (i + 1)) (lv' := [(1, .int (nI (i + 1))), (0, .ref y)]) S.1 S.2.1 dX9_city_41 hl (k := 0) rfl (nI_1 i) (by decide) rfl (fun ls hl => ?_)
      refine lv_goto (tgt := 11) S.1 S.2.1 dX9_city_44 (by decide) ?_
      exact ih (i + 1) (by omega) H locs ls _ hP hD hS (lv_sub hl [0, 1] rfl)
set_option maxHeartbeats 4000000 in
set_option maxRecDepth 100000 in
theorem c_X9_city (l : Launch) (D : va_G) (cI cZ cC cS : ClassId) (sq sz : Nat) (y : Nat) (y_lane : Nat) (y_many : Nat) (y_item : Nat) (y_city : Nat) (y_fresh : Nat) (y_tape : Nat) (y_cost : Nat) (y_away : Nat) (y_fee : Nat) (y_goesTo : Nat) (y_priceWas : Nat) (y_isKept : Nat) (y_kept : Nat) (y_trace : Nat) (f : Nat → Int32) : mI l yX9_city wsX9_city 4 100 D (tyW cI cZ cC cS) sq [(y, .inr (9, [.int 0, .int 0, .ref y_lane, .ref y_many, .ref y_item, .ref y_city, .ref y_fresh, .int 0, .ref y_tape, .int 0, .int 0, .int 0, .int 0, .int 0, .int 0, .int 0, .int 0, .int 0, .int 0, .int 0, .ref y_cost, .ref y_away, .ref y_fee, .ref y_goesTo, .ref y_priceWas, .ref y_isKept, .ref y_kept, .ref y_trace, .int 0])), (y_fresh, .inl (cI, 192, .inl f))] sz [.ref y] (fun r w => r = -1000100 ∧ w = []) := by
  refine b_metI (cc := cX9_city) (maxL := 2) (ret := (some .int)) (by decide) rfl (Nat.le_of_ble_eq_true rfl) ?_
  intro p e s m below meth c ls A H X hsz hP hK hD hA hS hl
  have S : CallFix p m c cX9_city 2 s ([.ref y] : List Value).toArray wsX9_city RX9 := X.1
  have hl : lv_has ls 2 [(0, .ref y)] := hl
  have iX9 := jX9_city_X9
  refine lv_aload_n S.1 S.2.1 dX9_city_0 rfl (lv_at hl 0 rfl) ?_
  refine lv_iconst (v := 0) S.1 S.2.1 dX9_city_1 (by decide) ?_
  refine b_put (v := .int 0) S iX9 tyX9 tyX9_ok nmX9 hK hP hD hS 0 rfl rfl 0 (by decide) (by decide +kernel) rfl rfl rfl (Nat.le_of_ble_eq_true rfl) dX9_city_2 (fun H locs hP hD hS => ?_)
  have hP : va_P D vwCl [(y, .inr (9, [.int 0, .int 0, .ref y_lane, .ref y_many, .ref y_item, .ref y_city, .ref y_fresh, .int 0, .ref y_tape, .int 0, .int 0, .int 0, .int 0, .int 0, .int 0, .int 0, .int 0, .int 0, .int 0, .int 0, .ref y_cost, .ref y_away, .ref y_fee, .ref y_goesTo, .ref y_priceWas, .ref y_isKept, .ref y_kept, .ref y_trace, .int 0])), (y_fresh, .inl (cI, 192, .inl f))] H := hP
  have hD : va_D A [(y, .inr (9, [.int 0, .int 0, .ref y_lane, .ref y_many, .ref y_item, .ref y_city, .ref y_fresh, .int 0, .ref y_tape, .int 0, .int 0, .int 0, .int 0, .int 0, .int 0, .int 0, .int 0, .int 0, .int 0, .int 0, .ref y_cost, .ref y_away, .ref y_fee, .ref y_goesTo, .ref y_priceWas, .ref y_isKept, .ref y_kept, .ref y_trace, .int 0])), (y_fresh, .inl (cI, 192, .inl f))] := hD
  refine lv_aload_n S.1 S.2.1 dX9_city_5 rfl (lv_at hl 0 rfl) ?_
  refine b_av (wr := [(y_fresh, .inl (cI, 192, .inl f))]) (b_runV (q0 := 0) (ci := 9) (As := []) (c_X9_begin l D cI cZ cC cS sq H.size y y_lane y_many y_item y_city y_fresh y_tape y_cost y_away y_fee y_goesTo y_priceWas y_isKept y_kept y_trace) S gX9_city_X9_begin rfl hdV_X9_begin ⟨Nat.le_of_ble_eq_true rfl, Nat.le_of_ble_eq_true rfl⟩ ⟨Nat.le_of_ble_eq_true rfl, Nat.le_of_ble_eq_true rfl⟩ hK hP hD rfl rfl [0] rfl (by decide) rfl hl.1 rfl (Nat.le_of_ble_eq_true rfl) dX9_city_6) hP hD hS hA [0] [1] rfl rfl (by decide) (by decide) (fun w_2 H locs hw_3 hP hD hS => ?_)
  subst hw_3
  have hP : va_P D vwCl [(y_fresh, .inl (cI, 192, .inl f)), (y, .inr (9, [.int 0, .int 0, .ref y_lane, .ref y_many, .ref y_item, .ref y_city, .ref y_fresh, .int 0, .ref y_tape, .int 0, .int 0, .int 0, .int 0, .int 1, .int 0, .int 0, .int 0, .int 0, .int 0, .int 0, .ref y_cost, .ref y_away, .ref y_fee, .ref y_goesTo, .ref y_priceWas, .ref y_isKept, .ref y_kept, .ref y_trace, .int 0]))] H := hP
  have hD : va_D A [(y_fresh, .inl (cI, 192, .inl f)), (y, .inr (9, [.int 0, .int 0, .ref y_lane, .ref y_many, .ref y_item, .ref y_city, .ref y_fresh, .int 0, .ref y_tape, .int 0, .int 0, .int 0, .int 0, .int 1, .int 0, .int 0, .int 0, .int 0, .int 0, .int 0, .ref y_cost, .ref y_away, .ref y_fee, .ref y_goesTo, .ref y_priceWas, .ref y_isKept, .ref y_kept, .ref y_trace, .int 0]))] := hD
  refine lv_iconst (v := 0) S.1 S.2.1 dX9_city_9 (by decide) ?_
  refine lv_istore_n (lv' := [(1, .int 0), (0, .ref y)]) S.1 S.2.1 dX9_city_10 rfl hl (by decide) rfl (fun ls hl => ?_)
  have hP := hP.sub (ws' := [(y, .inr (9, [.int 0, .int 0, .ref y_lane, .ref y_many, .ref y_item, .ref y_city, .ref y_fresh, .int 0, .ref y_tape, .int 0, .int 0, .int 0, .int 0, .int 1, .int 0, .int 0, .int 0, .int 0, .int 0, .int 0, .ref y_cost, .ref y_away, .ref y_fee, .ref y_goesTo, .ref y_priceWas, .ref y_isKept, .ref y_kept, .ref y_trace, .int 0])), (y_fresh, .inl (cI, 192, .inl f))]) [1, 0] rfl
  have hD := hD.sub (ws' := [(y, .inr (9, [.int 0, .int 0, .ref y_lane, .ref y_many, .ref y_item, .ref y_city, .ref y_fresh, .int 0, .ref y_tape, .int 0, .int 0, .int 0, .int 0, .int 1, .int 0, .int 0, .int 0, .int 0, .int 0, .int 0, .ref y_cost, .ref y_away, .ref y_fee, .ref y_goesTo, .ref y_priceWas, .ref y_isKept, .ref y_kept, .ref y_trace, .int 0])), (y_fresh, .inl (cI, 192, .inl f))]) [1, 0] (by decide) rfl
  exact lp_X9_city l D cI cZ cC cS sq y y_lane y_many y_item y_city y_fresh y_tape y_cost y_away y_fee y_goesTo y_priceWas y_isKept y_kept y_trace X hK hA 192 0 (by omega) H _ ls _ hP hD hS (lv_sub hl [0, 1] rfl)
