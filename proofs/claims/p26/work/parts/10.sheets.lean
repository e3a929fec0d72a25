set_option maxRecDepth 20000 in
theorem ggX4_begin_J7_fill_53178 : GoodIn wsX4_begin wsJ7_fill_53178 := goodIn_r _ [7] (by first | exact rfl | decide +kernel) (by decide +kernel)
set_option maxRecDepth 20000 in
theorem gX4_begin_J7_fill_53178 : GoodIn wsX4_begin (va_wsS RX4 22 yJ7_fill_53178 wsJ7_fill_53178) := goodIn_app (goodIn_r _ [4, 5, 6] (by first | exact rfl | decide +kernel) (by decide +kernel)) ggX4_begin_J7_fill_53178
set_option maxRecDepth 20000 in
theorem gdJ7_fill_53178_0 : decode cJ7_fill_53178 0 = .ok (.iconst 0, 1) ∧ decode cJ7_fill_53178 1 = .ok (.istore_n 2, 1) ∧ decode cJ7_fill_53178 2 = .ok (.aload_n 0, 1) ∧ decode cJ7_fill_53178 3 = .ok (.arraylength, 1) ∧ decode cJ7_fill_53178 4 = .ok (.istore_n 3, 1) ∧ decode cJ7_fill_53178 5 = .ok (.iload_n 2, 1) ∧ decode cJ7_fill_53178 6 = .ok (.iload_n 3, 1) ∧ decode cJ7_fill_53178 7 = .ok (.if_icmp .ge 13, 3) := by decide +kernel
theorem dJ7_fill_53178_0 : decode cJ7_fill_53178 0 = .ok (.iconst 0, 1) := gdJ7_fill_53178_0.1
theorem dJ7_fill_53178_1 : decode cJ7_fill_53178 1 = .ok (.istore_n 2, 1) := gdJ7_fill_53178_0.2.1
theorem dJ7_fill_53178_2 : decode cJ7_fill_53178 2 = .ok (.aload_n 0, 1) := gdJ7_fill_53178_0.2.2.1
theorem dJ7_fill_53178_3 : decode cJ7_fill_53178 3 = .ok (.arraylength, 1) := gdJ7_fill_53178_0.2.2.2.1
theorem dJ7_fill_53178_4 : decode cJ7_fill_53178 4 = .ok (.istore_n 3, 1) := gdJ7_fill_53178_0.2.2.2.2.1
theorem dJ7_fill_53178_5 : decode cJ7_fill_53178 5 = .ok (.iload_n 2, 1) := gdJ7_fill_53178_0.2.2.2.2.2.1
theorem dJ7_fill_53178_6 : decode cJ7_fill_53178 6 = .ok (.iload_n 3, 1) := gdJ7_fill_53178_0.2.2.2.2.2.2.1
theorem dJ7_fill_53178_7 : decode cJ7_fill_53178 7 = .ok (.if_icmp .ge 13, 3) := gdJ7_fill_53178_0.2.2.2.2.2.2.2
set_option maxRecDepth 20000 in
theorem gdJ7_fill_53178_10 : decode cJ7_fill_53178 10 = .ok (.aload_n 0, 1) ∧ decode cJ7_fill_53178 11 = .ok (.iload_n 2, 1) ∧ decode cJ7_fill_53178 12 = .ok (.iload_n 1, 1) ∧ decode cJ7_fill_53178 13 = .ok (.iastore, 1) ∧ decode cJ7_fill_53178 14 = .ok (.iinc 2 1, 3) ∧ decode cJ7_fill_53178 17 = .ok (.goto (-12), 3) ∧ decode cJ7_fill_53178 20 = .ok (.return_, 1) := by decide +kernel
theorem dJ7_fill_53178_10 : decode cJ7_fill_53178 10 = .ok (.aload_n 0, 1) := gdJ7_fill_53178_10.1
theorem dJ7_fill_53178_11 : decode cJ7_fill_53178 11 = .ok (.iload_n 2, 1) := gdJ7_fill_53178_10.2.1
theorem dJ7_fill_53178_12 : decode cJ7_fill_53178 12 = .ok (.iload_n 1, 1) := gdJ7_fill_53178_10.2.2.1
theorem dJ7_fill_53178_13 : decode cJ7_fill_53178 13 = .ok (.iastore, 1) := gdJ7_fill_53178_10.2.2.2.1
theorem dJ7_fill_53178_14 : decode cJ7_fill_53178 14 = .ok (.iinc 2 1, 3) := gdJ7_fill_53178_10.2.2.2.2.1
theorem dJ7_fill_53178_17 : decode cJ7_fill_53178 17 = .ok (.goto (-12), 3) := gdJ7_fill_53178_10.2.2.2.2.2.1
theorem dJ7_fill_53178_20 : decode cJ7_fill_53178 20 = .ok (.return_, 1) := gdJ7_fill_53178_10.2.2.2.2.2.2
set_option maxRecDepth 20000 in
theorem gdX4_begin_0 : decode cX4_begin 0 = .ok (.aload_n 0, 1) ∧ decode cX4_begin 1 = .ok (.iload_n 1, 1) ∧ decode cX4_begin 2 = .ok (.putfield 11, 3) ∧ decode cX4_begin 5 = .ok (.aload_n 0, 1) ∧ decode cX4_begin 6 = .ok (.iload_n 2, 1) ∧ decode cX4_begin 7 = .ok (.putfield 15, 3) ∧ decode cX4_begin 10 = .ok (.aload_n 0, 1) ∧ decode cX4_begin 11 = .ok (.getfield 18, 3) := by decide +kernel
theorem dX4_begin_0 : decode cX4_begin 0 = .ok (.aload_n 0, 1) := gdX4_begin_0.1
theorem dX4_begin_1 : decode cX4_begin 1 = .ok (.iload_n 1, 1) := gdX4_begin_0.2.1
theorem dX4_begin_2 : decode cX4_begin 2 = .ok (.putfield 11, 3) := gdX4_begin_0.2.2.1
theorem dX4_begin_5 : decode cX4_begin 5 = .ok (.aload_n 0, 1) := gdX4_begin_0.2.2.2.1
theorem dX4_begin_6 : decode cX4_begin 6 = .ok (.iload_n 2, 1) := gdX4_begin_0.2.2.2.2.1
theorem dX4_begin_7 : decode cX4_begin 7 = .ok (.putfield 15, 3) := gdX4_begin_0.2.2.2.2.2.1
theorem dX4_begin_10 : decode cX4_begin 10 = .ok (.aload_n 0, 1) := gdX4_begin_0.2.2.2.2.2.2.1
theorem dX4_begin_11 : decode cX4_begin 11 = .ok (.getfield 18, 3) := gdX4_begin_0.2.2.2.2.2.2.2
set_option maxRecDepth 20000 in
theorem gdX4_begin_14 : decode cX4_begin 14 = .ok (.iconst 0, 1) ∧ decode cX4_begin 15 = .ok (.invokestatic 22, 3) ∧ decode cX4_begin 18 = .ok (.return_, 1) := by decide +kernel
theorem dX4_begin_14 : decode cX4_begin 14 = .ok (.iconst 0, 1) := gdX4_begin_14.1
theorem dX4_begin_15 : decode cX4_begin 15 = .ok (.invokestatic 22, 3) := gdX4_begin_14.2.1
theorem dX4_begin_18 : decode cX4_begin 18 = .ok (.return_, 1) := gdX4_begin_14.2.2
set_option maxRecDepth 20000 in
theorem gdX4_hasRow_0 : decode cX4_hasRow 0 = .ok (.iload_n 1, 1) ∧ decode cX4_hasRow 1 = .ok (.ifCond .lt 29, 3) ∧ decode cX4_hasRow 4 = .ok (.iload_n 2, 1) ∧ decode cX4_hasRow 5 = .ok (.ifCond .lt 25, 3) ∧ decode cX4_hasRow 8 = .ok (.iload_n 1, 1) ∧ decode cX4_hasRow 9 = .ok (.aload_n 0, 1) ∧ decode cX4_hasRow 10 = .ok (.getfield 15, 3) ∧ decode cX4_hasRow 13 = .ok (.if_icmp .gt 17, 3) := by decide +kernel
theorem dX4_hasRow_0 : decode cX4_hasRow 0 = .ok (.iload_n 1, 1) := gdX4_hasRow_0.1
theorem dX4_hasRow_1 : decode cX4_hasRow 1 = .ok (.ifCond .lt 29, 3) := gdX4_hasRow_0.2.1
theorem dX4_hasRow_4 : decode cX4_hasRow 4 = .ok (.iload_n 2, 1) := gdX4_hasRow_0.2.2.1
theorem dX4_hasRow_5 : decode cX4_hasRow 5 = .ok (.ifCond .lt 25, 3) := gdX4_hasRow_0.2.2.2.1
theorem dX4_hasRow_8 : decode cX4_hasRow 8 = .ok (.iload_n 1, 1) := gdX4_hasRow_0.2.2.2.2.1
theorem dX4_hasRow_9 : decode cX4_hasRow 9 = .ok (.aload_n 0, 1) := gdX4_hasRow_0.2.2.2.2.2.1
theorem dX4_hasRow_10 : decode cX4_hasRow 10 = .ok (.getfield 15, 3) := gdX4_hasRow_0.2.2.2.2.2.2.1
theorem dX4_hasRow_13 : decode cX4_hasRow 13 = .ok (.if_icmp .gt 17, 3) := gdX4_hasRow_0.2.2.2.2.2.2.2
set_option maxRecDepth 20000 in
theorem gdX4_hasRow_16 : decode cX4_hasRow 16 = .ok (.iload_n 2, 1) ∧ decode cX4_hasRow 17 = .ok (.aload_n 0, 1) ∧ decode cX4_hasRow 18 = .ok (.getfield 15, 3) ∧ decode cX4_hasRow 21 = .ok (.iload_n 1, 1) ∧ decode cX4_hasRow 22 = .ok (.isub, 1) ∧ decode cX4_hasRow 23 = .ok (.if_icmp .gt 7, 3) ∧ decode cX4_hasRow 26 = .ok (.iconst 1, 1) ∧ decode cX4_hasRow 27 = .ok (.goto 4, 3) := by decide +kernel
theorem dX4_hasRow_16 : decode cX4_hasRow 16 = .ok (.iload_n 2, 1) := gdX4_hasRow_16.1
theorem dX4_hasRow_17 : decode cX4_hasRow 17 = .ok (.aload_n 0, 1) := gdX4_hasRow_16.2.1
theorem dX4_hasRow_18 : decode cX4_hasRow 18 = .ok (.getfield 15, 3) := gdX4_hasRow_16.2.2.1
theorem dX4_hasRow_21 : decode cX4_hasRow 21 = .ok (.iload_n 1, 1) := gdX4_hasRow_16.2.2.2.1
theorem dX4_hasRow_22 : decode cX4_hasRow 22 = .ok (.isub, 1) := gdX4_hasRow_16.2.2.2.2.1
theorem dX4_hasRow_23 : decode cX4_hasRow 23 = .ok (.if_icmp .gt 7, 3) := gdX4_hasRow_16.2.2.2.2.2.1
theorem dX4_hasRow_26 : decode cX4_hasRow 26 = .ok (.iconst 1, 1) := gdX4_hasRow_16.2.2.2.2.2.2.1
theorem dX4_hasRow_27 : decode cX4_hasRow 27 = .ok (.goto 4, 3) := gdX4_hasRow_16.2.2.2.2.2.2.2
theorem dX4_hasRow_30 : decode cX4_hasRow 30 = .ok (.iconst 0, 1) := by decide +kernel
theorem dX4_hasRow_31 : decode cX4_hasRow 31 = .ok (.ireturn, 1) := by decide +kernel
set_option maxRecDepth 20000 in
theorem gdX4_isMissing_0 : decode cX4_isMissing 0 = .ok (.aload_n 0, 1) ∧ decode cX4_isMissing 1 = .ok (.getfield 11, 3) ∧ decode cX4_isMissing 4 = .ok (.iconst (-1), 1) ∧ decode cX4_isMissing 5 = .ok (.if_icmp .ne 7, 3) ∧ decode cX4_isMissing 8 = .ok (.iconst 1, 1) ∧ decode cX4_isMissing 9 = .ok (.goto 4, 3) ∧ decode cX4_isMissing 12 = .ok (.iconst 0, 1) ∧ decode cX4_isMissing 13 = .ok (.ireturn, 1) := by decide +kernel
theorem dX4_isMissing_0 : decode cX4_isMissing 0 = .ok (.aload_n 0, 1) := gdX4_isMissing_0.1
theorem dX4_isMissing_1 : decode cX4_isMissing 1 = .ok (.getfield 11, 3) := gdX4_isMissing_0.2.1
theorem dX4_isMissing_4 : decode cX4_isMissing 4 = .ok (.iconst (-1), 1) := gdX4_isMissing_0.2.2.1
theorem dX4_isMissing_5 : decode cX4_isMissing 5 = .ok (.if_icmp .ne 7, 3) := gdX4_isMissing_0.2.2.2.1
theorem dX4_isMissing_8 : decode cX4_isMissing 8 = .ok (.iconst 1, 1) := gdX4_isMissing_0.2.2.2.2.1
theorem dX4_isMissing_9 : decode cX4_isMissing 9 = .ok (.goto 4, 3) := gdX4_isMissing_0.2.2.2.2.2.1
theorem dX4_isMissing_12 : decode cX4_isMissing 12 = .ok (.iconst 0, 1) := gdX4_isMissing_0.2.2.2.2.2.2.1
theorem dX4_isMissing_13 : decode cX4_isMissing 13 = .ok (.ireturn, 1) := gdX4_isMissing_0.2.2.2.2.2.2.2
set_option maxRecDepth 20000 in
theorem gdX4_put_0 : decode cX4_put 0 = .ok (.iload_n 2, 1) ∧ decode cX4_put 1 = .ok (.istore_n 3, 1) ∧ decode cX4_put 2 = .ok (.aload_n 0, 1) ∧ decode cX4_put 3 = .ok (.getfield 11, 3) ∧ decode cX4_put 6 = .ok (.ifCond .ne 9, 3) ∧ decode cX4_put 9 = .ok (.iload_n 2, 1) ∧ decode cX4_put 10 = .ok (.i2b, 1) ∧ decode cX4_put 11 = .ok (.istore_n 3, 1) := by decide +kernel
theorem dX4_put_0 : decode cX4_put 0 = .ok (.iload_n 2, 1) := gdX4_put_0.1
theorem dX4_put_1 : decode cX4_put 1 = .ok (.istore_n 3, 1) := gdX4_put_0.2.1
theorem dX4_put_2 : decode cX4_put 2 = .ok (.aload_n 0, 1) := gdX4_put_0.2.2.1
theorem dX4_put_3 : decode cX4_put 3 = .ok (.getfield 11, 3) := gdX4_put_0.2.2.2.1
theorem dX4_put_6 : decode cX4_put 6 = .ok (.ifCond .ne 9, 3) := gdX4_put_0.2.2.2.2.1
theorem dX4_put_9 : decode cX4_put 9 = .ok (.iload_n 2, 1) := gdX4_put_0.2.2.2.2.2.1
theorem dX4_put_10 : decode cX4_put 10 = .ok (.i2b, 1) := gdX4_put_0.2.2.2.2.2.2.1
theorem dX4_put_11 : decode cX4_put 11 = .ok (.istore_n 3, 1) := gdX4_put_0.2.2.2.2.2.2.2
set_option maxRecDepth 20000 in
theorem gdX4_put_12 : decode cX4_put 12 = .ok (.goto 14, 3) ∧ decode cX4_put 15 = .ok (.aload_n 0, 1) ∧ decode cX4_put 16 = .ok (.getfield 11, 3) ∧ decode cX4_put 19 = .ok (.iconst 1, 1) ∧ decode cX4_put 20 = .ok (.if_icmp .ne 6, 3) ∧ decode cX4_put 23 = .ok (.iload_n 2, 1) ∧ decode cX4_put 24 = .ok (.i2s, 1) ∧ decode cX4_put 25 = .ok (.istore_n 3, 1) := by decide +kernel
theorem dX4_put_12 : decode cX4_put 12 = .ok (.goto 14, 3) := gdX4_put_12.1
theorem dX4_put_15 : decode cX4_put 15 = .ok (.aload_n 0, 1) := gdX4_put_12.2.1
theorem dX4_put_16 : decode cX4_put 16 = .ok (.getfield 11, 3) := gdX4_put_12.2.2.1
theorem dX4_put_19 : decode cX4_put 19 = .ok (.iconst 1, 1) := gdX4_put_12.2.2.2.1
theorem dX4_put_20 : decode cX4_put 20 = .ok (.if_icmp .ne 6, 3) := gdX4_put_12.2.2.2.2.1
theorem dX4_put_23 : decode cX4_put 23 = .ok (.iload_n 2, 1) := gdX4_put_12.2.2.2.2.2.1
theorem dX4_put_24 : decode cX4_put 24 = .ok (.i2s, 1) := gdX4_put_12.2.2.2.2.2.2.1
theorem dX4_put_25 : decode cX4_put 25 = .ok (.istore_n 3, 1) := gdX4_put_12.2.2.2.2.2.2.2
set_option maxRecDepth 20000 in
theorem gdX4_put_26 : decode cX4_put 26 = .ok (.aload_n 0, 1) ∧ decode cX4_put 27 = .ok (.getfield 18, 3) ∧ decode cX4_put 30 = .ok (.iload_n 1, 1) ∧ decode cX4_put 31 = .ok (.iload_n 3, 1) ∧ decode cX4_put 32 = .ok (.iastore, 1) ∧ decode cX4_put 33 = .ok (.iload_n 3, 1) ∧ decode cX4_put 34 = .ok (.ireturn, 1) := by decide +kernel
theorem dX4_put_26 : decode cX4_put 26 = .ok (.aload_n 0, 1) := gdX4_put_26.1
theorem dX4_put_27 : decode cX4_put 27 = .ok (.getfield 18, 3) := gdX4_put_26.2.1
theorem dX4_put_30 : decode cX4_put 30 = .ok (.iload_n 1, 1) := gdX4_put_26.2.2.1
theorem dX4_put_31 : decode cX4_put 31 = .ok (.iload_n 3, 1) := gdX4_put_26.2.2.2.1
theorem dX4_put_32 : decode cX4_put 32 = .ok (.iastore, 1) := gdX4_put_26.2.2.2.2.1
theorem dX4_put_33 : decode cX4_put 33 = .ok (.iload_n 3, 1) := gdX4_put_26.2.2.2.2.2.1
theorem dX4_put_34 : decode cX4_put 34 = .ok (.ireturn, 1) := gdX4_put_26.2.2.2.2.2.2
theorem jX4_begin_X4 : ∀ w ∈ u_ws RX4 TX4 3, w ∈ wsX4_begin := fun w h => List.mem_cons_of_mem _ (List.mem_append_right _ h)
theorem jX4_hasRow_X4 : ∀ w ∈ u_ws RX4 TX4 3, w ∈ wsX4_hasRow := fun w h => List.mem_cons_of_mem _ (List.mem_append_right _ h)
theorem jX4_isMissing_X4 : ∀ w ∈ u_ws RX4 TX4 3, w ∈ wsX4_isMissing := fun w h => List.mem_cons_of_mem _ (List.mem_append_right _ h)
theorem jX4_put_X4 : ∀ w ∈ u_ws RX4 TX4 3, w ∈ wsX4_put := fun w h => List.mem_cons_of_mem _ (List.mem_append_right _ h)
theorem hdS_J7_fill_53178 : yJ7_fill_53178.cls ≠ "java/lang/invoke/MethodHandle" ∧ yJ7_fill_53178.cls ≠ "java/lang/invoke/VarHandle" ∧ (parseMethodDescriptor yJ7_fill_53178.desc).map (fun d => d.parameters.length) = some 2 := by decide +kernel
set_option maxHeartbeats 4000000 in
set_option maxRecDepth 100000 in
theorem lp_fill_40 {p : Program} (l : Launch) {e : Env} {s : State} {m : MethodId} {below : List Frame} {meth : Method} {c : Code} (D : va_G) (cI cZ cC cS : ClassId) (sq : Nat → Nat) (a : Nat) (f0 : Nat → Int32) {A : Nat → Prop} (X : bX p s m meth c cJ7_fill_53178 4 wsJ7_fill_53178 yJ7_fill_53178 none [.ref a, .int 0]) (hK : kW D (tyW cI cZ cC cS) sq s) (hT : sT sq A s s.heap) (hA : ∀ q, s.heap.size ≤ q → A q) (K : ∀ (i : Int32) (f : Nat → Int32), (0 ≤ i.toInt ∧ i.toInt ≤ 40) → (zr f i.toInt) → (40 ≤ i.toInt) → ∀ (H : Heap) (locs : List Loc) (ls : Array Slot), va_P D vwCl [(a, .inl (cI, 40, .inl f))] H → va_D A [(a, .inl (cI, 40, .inl f))] → va_S A s.heap H locs → lv_has ls 4 [(3, .int 40), (2, .int i), (0, .ref a), (1, .int 0)] → W p l e (rmW 0 0 0 0) s m ([.ref a, .int 0] : List Value).toArray below meth c H locs 0 0 (MQ below (va_Qv (fun w => (∃ (f2 : Nat → Int32), (zr f2 40) ∧ w = [(a, .inl (cI, 40, .inl f2))])) (wD D A) A) ([.ref a, .int 0] : List Value).toArray s 0 0 A) (F0 m 20 ls [])) : ∀ (mN : Nat) (i : Int32) (f : Nat → Int32), (0 ≤ i.toInt ∧ i.toInt ≤ 40) → (zr f i.toInt) → ((40 - i.toInt).toNat < mN) → ∀ (H : Heap) (locs : List Loc) (ls : Array Slot), va_P D vwCl [(a, .inl (cI, 40, .inl f))] H → va_D A [(a, .inl (cI, 40, .inl f))] → va_S A s.heap H locs → lv_has ls 4 [(3, .int 40), (2, .int i), (0, .ref a), (1, .int 0)] → W p l e (rmW 0 0 0 0) s m ([.ref a, .int 0] : List Value).toArray below meth c H locs 0 0 (MQ below (va_Qv (fun w => (∃ (f2 : Nat → Int32), (zr f2 40) ∧ w = [(a, .inl (cI, 40, .inl f2))])) (wD D A) A) ([.ref a, .int 0] : List Value).toArray s 0 0 A) (F0 m 5 ls []) := by
  have S : CallFix p m c cJ7_fill_53178 4 s ([.ref a, .int 0] : List Value).toArray wsJ7_fill_53178 RJ7 := X.1
  intro mN
  induction mN with
  | zero => intro i f hi hfz hm; exact absurd hm (Nat.not_lt_zero _)
  | succ mN ih =>
    intro i f hi hfz hm H locs ls hP hD hS hl
    refine lv_iload_n S.1 S.2.1 dJ7_fill_53178_5 rfl (lv_at hl 1 rfl) ?_
    refine lv_iload_n S.1 S.2.1 dJ7_fill_53178_6 rfl (lv_at hl 0 rfl) ?_
    refine lv_icmp_ge (tgt := 20) S.1 S.2.1 dJ7_fill_53178_7 (by decide) (fun c_101 => ?_) (fun c_101 => ?_)
    · rw [le2 (a := 40) (b := i) (A := 40) (B := i.toInt) rfl rfl] at c_101
      exact K i f (by first | with_reducible assumption | decide | (and_intros <;> first | with_reducible assumption | (intros; refine Int.le_antisymm ?_ ?_ <;> omega) | omega) | assumption | (rw [show Int32.toInt 0 = 0 from rfl]; omega)) (by first | assumption | exact zr_st hfz (by first | with_reducible assumption | assumption) (by first | (and_intros <;> first | with_reducible assumption | (refine Int.le_antisymm ?_ ?_ <;> omega) | omega) | omega) (by first | (and_intros <;> first | with_reducible assumption | (refine Int.le_antisymm ?_ ?_ <;> omega) | omega) | omega)) (by first | with_reducible assumption | decide | (and_intros <;> first | with_reducible assumption | (intros; refine Int.le_antisymm ?_ ?_ <;> omega) | omega) | assumption | (rw [show Int32.toInt 0 = 0 from rfl]; omega)) H _ ls hP hD hS (lv_sub hl [0, 1, 2, 3] rfl)
    · rw [le2 (a := 40) (b := i) (A := 40) (B := i.toInt) rfl rfl] at c_101
      refine lv_aload_n S.1 S.2.1 dJ7_fill_53178_10 rfl (lv_at hl 2 rfl) ?_
      refine lv_iload_n S.1 S.2.1 dJ7_fill_53178_11 rfl (lv_at hl 1 rfl) ?_
      refine lv_iload_n S.1 S.2.1 dJ7_fill_53178_12 rfl (lv_at hl 3 rfl) ?_
      refine va_iast S.1 S.2.1 hK.1 hP hD hS 0 0 rfl rfl (in_of (n := 40) (by  omega) (by  omega)) dJ7_fill_53178_13 (fun H locs hP hD hS => ?_)
      obtain ⟨f_102, hf_102⟩ : ∃ g, (upd f i.toNatClampNeg (0)) = g := ⟨_, rfl⟩
      have hP : va_P D vwCl [(a, .inl (cI, 40, .inl (upd f i.toNatClampNeg (0))))] H := hP
      have hD : va_D A [(a, .inl (cI, 40, .inl (upd f i.toNatClampNeg (0))))] := hD
      rw [hf_102] at hP hD
      obtain ⟨x_103, ex_103⟩ : ∃ y : Int32, y = i + Int32.ofInt (1) := ⟨_, rfl⟩
      refine lv_iinc (v := x_103) (lv' := [(2, .int x_103), (3, .int 40), (0, .ref a), (1, .int 0)]) S.1 S.2.1 dJ7_fill_53178_14 hl (k := 1) rfl ex_103.symm (by decide) rfl (fun ls hl => ?_)
      have tx_103 : x_103.toInt = i.toInt + (1) := addI (A := i.toInt) (B := 1) ex_103 rfl rfl (by  omega) (by  omega)
      refine lv_goto (tgt := 5) S.1 S.2.1 dJ7_fill_53178_17 (by decide) ?_
      exact ih x_103 f_102 (by first | with_reducible assumption | decide | (and_intros <;> first | with_reducible assumption | (intros; refine Int.le_antisymm ?_ ?_ <;> omega) | omega) | assumption | (rw [show Int32.toInt 0 = 0 from rfl]; omega)) (by first | assumption | exact zr_st hfz (by first | with_reducible assumption | assumption) (by first | (and_intros <;> first | with_reducible assumption | (refine Int.le_antisymm ?_ ?_ <;> omega) | omega) | omega) (by first | (and_intros <;> first | with_reducible assumption | (refine Int.le_antisymm ?_ ?_ <;> omega) | omega) | omega)) (by first | (and_intros <;> first | with_reducible assumption | (refine Int.le_antisymm ?_ ?_ <;> omega) | omega) | omega) H _ ls hP hD hS (lv_sub hl [1, 0, 2, 3] rfl)
set_option maxHeartbeats 4000000 in
set_option maxRecDepth 100000 in
theorem s_J7_fill_53178_40 (l : Launch) (D : va_G) (cI cZ cC cS : ClassId) (sq : Nat → Nat) (sz : Nat) (a : Nat) (f0 : Nat → Int32) : mV l yJ7_fill_53178 wsJ7_fill_53178 0 0 0 0 D (tyW cI cZ cC cS) sq [(a, .inl (cI, 40, .inl f0))] sz [.ref a, .int 0] (fun w => (∃ (f2 : Nat → Int32), (zr f2 40) ∧ w = [(a, .inl (cI, 40, .inl f2))])) := by
  refine b_metV (cc := cJ7_fill_53178) (maxL := 4) (ret := none) (by decide) rfl (Nat.le_of_ble_eq_true rfl) ?_
  intro p e s m below meth c ls A H X hsz hP hK hT hD hA hS hl
  have S : CallFix p m c cJ7_fill_53178 4 s ([.ref a, .int 0] : List Value).toArray wsJ7_fill_53178 RJ7 := X.1
  have hl : lv_has ls 4 [(0, .ref a), (1, .int 0)] := hl
  refine lv_iconst (v := (0)) S.1 S.2.1 dJ7_fill_53178_0 (by decide) ?_
  refine lv_istore_n (lv' := [(2, .int 0), (0, .ref a), (1, .int 0)]) S.1 S.2.1 dJ7_fill_53178_1 rfl hl (by decide) rfl (fun ls hl => ?_)
  refine lv_aload_n S.1 S.2.1 dJ7_fill_53178_2 rfl (lv_at hl 1 rfl) ?_
  refine va_alen (v := 40) S.1 S.2.1 hK.1 hP 0 0 rfl rfl rfl dJ7_fill_53178_3 ?_
  refine lv_istore_n (lv' := [(3, .int 40), (2, .int 0), (0, .ref a), (1, .int 0)]) S.1 S.2.1 dJ7_fill_53178_4 rfl hl (by decide) rfl (fun ls hl => ?_)
  refine lp_fill_40 l D cI cZ cC cS sq a f0 X hK hT hA (fun i_1 f_2 hi_3 hi_4 hi_5 H locs ls hP hD hS hl => ?_) _ (0) f0 (by first | with_reducible assumption | decide | (and_intros <;> first | with_reducible assumption | (intros; refine Int.le_antisymm ?_ ?_ <;> omega) | omega) | assumption | (rw [show Int32.toInt 0 = 0 from rfl]; omega)) (zr_0 (by decide)) (Nat.lt_succ_self _) H _ ls hP hD hS (lv_sub hl [0, 1, 2, 3] rfl)
  exact b_vret S.1 S.2.1 X.2.1 X.2.2.1 hP hD hS ⟨f_2, (zr_sub (by first | with_reducible assumption | assumption) (by first | with_reducible assumption | assumption)), rfl⟩ dJ7_fill_53178_20
set_option maxHeartbeats 4000000 in
set_option maxRecDepth 100000 in
theorem lp_fill_6 {p : Program} (l : Launch) {e : Env} {s : State} {m : MethodId} {below : List Frame} {meth : Method} {c : Code} (D : va_G) (cI cZ cC cS : ClassId) (sq : Nat → Nat) (a : Nat) (f0 : Nat → Int32) {A : Nat → Prop} (X : bX p s m meth c cJ7_fill_53178 4 wsJ7_fill_53178 yJ7_fill_53178 none [.ref a, .int 0]) (hK : kW D (tyW cI cZ cC cS) sq s) (hT : sT sq A s s.heap) (hA : ∀ q, s.heap.size ≤ q → A q) (K : ∀ (i : Int32) (f : Nat → Int32), (0 ≤ i.toInt ∧ i.toInt ≤ 6) → (zr f i.toInt) → (6 ≤ i.toInt) → ∀ (H : Heap) (locs : List Loc) (ls : Array Slot), va_P D vwCl [(a, .inl (cI, 6, .inl f))] H → va_D A [(a, .inl (cI, 6, .inl f))] → va_S A s.heap H locs → lv_has ls 4 [(3, .int 6), (2, .int i), (0, .ref a), (1, .int 0)] → W p l e (rmW 0 0 0 0) s m ([.ref a, .int 0] : List Value).toArray below meth c H locs 0 0 (MQ below (va_Qv (fun w => (∃ (f2 : Nat → Int32), (zr f2 6) ∧ w = [(a, .inl (cI, 6, .inl f2))])) (wD D A) A) ([.ref a, .int 0] : List Value).toArray s 0 0 A) (F0 m 20 ls [])) : ∀ (mN : Nat) (i : Int32) (f : Nat → Int32), (0 ≤ i.toInt ∧ i.toInt ≤ 6) → (zr f i.toInt) → ((6 - i.toInt).toNat < mN) → ∀ (H : Heap) (locs : List Loc) (ls : Array Slot), va_P D vwCl [(a, .inl (cI, 6, .inl f))] H → va_D A [(a, .inl (cI, 6, .inl f))] → va_S A s.heap H locs → lv_has ls 4 [(3, .int 6), (2, .int i), (0, .ref a), (1, .int 0)] → W p l e (rmW 0 0 0 0) s m ([.ref a, .int 0] : List Value).toArray below meth c H locs 0 0 (MQ below (va_Qv (fun w => (∃ (f2 : Nat → Int32), (zr f2 6) ∧ w = [(a, .inl (cI, 6, .inl f2))])) (wD D A) A) ([.ref a, .int 0] : List Value).toArray s 0 0 A) (F0 m 5 ls []) := by
  have S : CallFix p m c cJ7_fill_53178 4 s ([.ref a, .int 0] : List Value).toArray wsJ7_fill_53178 RJ7 := X.1
  intro mN
  induction mN with
  | zero => intro i f hi hfz hm; exact absurd hm (Nat.not_lt_zero _)
  | succ mN ih =>
    intro i f hi hfz hm H locs ls hP hD hS hl
    refine lv_iload_n S.1 S.2.1 dJ7_fill_53178_5 rfl (lv_at hl 1 rfl) ?_
    refine lv_iload_n S.1 S.2.1 dJ7_fill_53178_6 rfl (lv_at hl 0 rfl) ?_
    refine lv_icmp_ge (tgt := 20) S.1 S.2.1 dJ7_fill_53178_7 (by decide) (fun c_101 => ?_) (fun c_101 => ?_)
    · rw [le2 (a := 6) (b := i) (A := 6) (B := i.toInt) rfl rfl] at c_101
      exact K i f (by first | with_reducible assumption | decide | (and_intros <;> first | with_reducible assumption | (intros; refine Int.le_antisymm ?_ ?_ <;> omega) | omega) | assumption | (rw [show Int32.toInt 0 = 0 from rfl]; omega)) (by first | assumption | exact zr_st hfz (by first | with_reducible assumption | assumption) (by first | (and_intros <;> first | with_reducible assumption | (refine Int.le_antisymm ?_ ?_ <;> omega) | omega) | omega) (by first | (and_intros <;> first | with_reducible assumption | (refine Int.le_antisymm ?_ ?_ <;> omega) | omega) | omega)) (by first | with_reducible assumption | decide | (and_intros <;> first | with_reducible assumption | (intros; refine Int.le_antisymm ?_ ?_ <;> omega) | omega) | assumption | (rw [show Int32.toInt 0 = 0 from rfl]; omega)) H _ ls hP hD hS (lv_sub hl [0, 1, 2, 3] rfl)
    · rw [le2 (a := 6) (b := i) (A := 6) (B := i.toInt) rfl rfl] at c_101
      refine lv_aload_n S.1 S.2.1 dJ7_fill_53178_10 rfl (lv_at hl 2 rfl) ?_
      refine lv_iload_n S.1 S.2.1 dJ7_fill_53178_11 rfl (lv_at hl 1 rfl) ?_
      refine lv_iload_n S.1 S.2.1 dJ7_fill_53178_12 rfl (lv_at hl 3 rfl) ?_
      refine va_iast S.1 S.2.1 hK.1 hP hD hS 0 0 rfl rfl (in_of (n := 6) (by  omega) (by  omega)) dJ7_fill_53178_13 (fun H locs hP hD hS => ?_)
      obtain ⟨f_102, hf_102⟩ : ∃ g, (upd f i.toNatClampNeg (0)) = g := ⟨_, rfl⟩
      have hP : va_P D vwCl [(a, .inl (cI, 6, .inl (upd f i.toNatClampNeg (0))))] H := hP
      have hD : va_D A [(a, .inl (cI, 6, .inl (upd f i.toNatClampNeg (0))))] := hD
      rw [hf_102] at hP hD
      obtain ⟨x_103, ex_103⟩ : ∃ y : Int32, y = i + Int32.ofInt (1) := ⟨_, rfl⟩
      refine lv_iinc (v := x_103) (lv' := [(2, .int x_103), (3, .int 6), (0, .ref a), (1, .int 0)]) S.1 S.2.1 dJ7_fill_53178_14 hl (k := 1) rfl ex_103.symm (by decide) rfl (fun ls hl => ?_)
      have tx_103 : x_103.toInt = i.toInt + (1) := addI (A := i.toInt) (B := 1) ex_103 rfl rfl (by  omega) (by  omega)
      refine lv_goto (tgt := 5) S.1 S.2.1 dJ7_fill_53178_17 (by decide) ?_
      exact ih x_103 f_102 (by first | with_reducible assumption | decide | (and_intros <;> first | with_reducible assumption | (intros; refine Int.le_antisymm ?_ ?_ <;> omega) | omega) | assumption | (rw [show Int32.toInt 0 = 0 from rfl]; omega)) (by first | assumption | exact zr_st hfz (by first | with_reducible assumption | assumption) (by first | (and_intros <;> first | with_reducible assumption | (refine Int.le_antisymm ?_ ?_ <;> omega) | omega) | omega) (by first | (and_intros <;> first | with_reducible assumption | (refine Int.le_antisymm ?_ ?_ <;> omega) | omega) | omega)) (by first | (and_intros <;> first | with_reducible assumption | (refine Int.le_antisymm ?_ ?_ <;> omega) | omega) | omega) H _ ls hP hD hS (lv_sub hl [1, 0, 2, 3] rfl)
set_option maxHeartbeats 4000000 in
set_option maxRecDepth 100000 in
theorem s_J7_fill_53178_6 (l : Launch) (D : va_G) (cI cZ cC cS : ClassId) (sq : Nat → Nat) (sz : Nat) (a : Nat) (f0 : Nat → Int32) : mV l yJ7_fill_53178 wsJ7_fill_53178 0 0 0 0 D (tyW cI cZ cC cS) sq [(a, .inl (cI, 6, .inl f0))] sz [.ref a, .int 0] (fun w => (∃ (f2 : Nat → Int32), (zr f2 6) ∧ w = [(a, .inl (cI, 6, .inl f2))])) := by
  refine b_metV (cc := cJ7_fill_53178) (maxL := 4) (ret := none) (by decide) rfl (Nat.le_of_ble_eq_true rfl) ?_
  intro p e s m below meth c ls A H X hsz hP hK hT hD hA hS hl
  have S : CallFix p m c cJ7_fill_53178 4 s ([.ref a, .int 0] : List Value).toArray wsJ7_fill_53178 RJ7 := X.1
  have hl : lv_has ls 4 [(0, .ref a), (1, .int 0)] := hl
  refine lv_iconst (v := (0)) S.1 S.2.1 dJ7_fill_53178_0 (by decide) ?_
  refine lv_istore_n (lv' := [(2, .int 0), (0, .ref a), (1, .int 0)]) S.1 S.2.1 dJ7_fill_53178_1 rfl hl (by decide) rfl (fun ls hl => ?_)
  refine lv_aload_n S.1 S.2.1 dJ7_fill_53178_2 rfl (lv_at hl 1 rfl) ?_
  refine va_alen (v := 6) S.1 S.2.1 hK.1 hP 0 0 rfl rfl rfl dJ7_fill_53178_3 ?_
  refine lv_istore_n (lv' := [(3, .int 6), (2, .int 0), (0, .ref a), (1, .int 0)]) S.1 S.2.1 dJ7_fill_53178_4 rfl hl (by decide) rfl (fun ls hl => ?_)
  refine lp_fill_6 l D cI cZ cC cS sq a f0 X hK hT hA (fun i_1 f_2 hi_3 hi_4 hi_5 H locs ls hP hD hS hl => ?_) _ (0) f0 (by first | with_reducible assumption | decide | (and_intros <;> first | with_reducible assumption | (intros; refine Int.le_antisymm ?_ ?_ <;> omega) | omega) | assumption | (rw [show Int32.toInt 0 = 0 from rfl]; omega)) (zr_0 (by decide)) (Nat.lt_succ_self _) H _ ls hP hD hS (lv_sub hl [0, 1, 2, 3] rfl)
  exact b_vret S.1 S.2.1 X.2.1 X.2.2.1 hP hD hS ⟨f_2, (zr_sub (by first | with_reducible assumption | assumption) (by first | with_reducible assumption | assumption)), rfl⟩ dJ7_fill_53178_20
set_option maxHeartbeats 4000000 in
set_option maxRecDepth 100000 in
theorem lp_fill_36 {p : Program} (l : Launch) {e : Env} {s : State} {m : MethodId} {below : List Frame} {meth : Method} {c : Code} (D : va_G) (cI cZ cC cS : ClassId) (sq : Nat → Nat) (a : Nat) (f0 : Nat → Int32) {A : Nat → Prop} (X : bX p s m meth c cJ7_fill_53178 4 wsJ7_fill_53178 yJ7_fill_53178 none [.ref a, .int 0]) (hK : kW D (tyW cI cZ cC cS) sq s) (hT : sT sq A s s.heap) (hA : ∀ q, s.heap.size ≤ q → A q) (K : ∀ (i : Int32) (f : Nat → Int32), (0 ≤ i.toInt ∧ i.toInt ≤ 36) → (zr f i.toInt) → (36 ≤ i.toInt) → ∀ (H : Heap) (locs : List Loc) (ls : Array Slot), va_P D vwCl [(a, .inl (cI, 36, .inl f))] H → va_D A [(a, .inl (cI, 36, .inl f))] → va_S A s.heap H locs → lv_has ls 4 [(3, .int 36), (2, .int i), (0, .ref a), (1, .int 0)] → W p l e (rmW 0 0 0 0) s m ([.ref a, .int 0] : List Value).toArray below meth c H locs 0 0 (MQ below (va_Qv (fun w => (∃ (f2 : Nat → Int32), (zr f2 36) ∧ w = [(a, .inl (cI, 36, .inl f2))])) (wD D A) A) ([.ref a, .int 0] : List Value).toArray s 0 0 A) (F0 m 20 ls [])) : ∀ (mN : Nat) (i : Int32) (f : Nat → Int32), (0 ≤ i.toInt ∧ i.toInt ≤ 36) → (zr f i.toInt) → ((36 - i.toInt).toNat < mN) → ∀ (H : Heap) (locs : List Loc) (ls : Array Slot), va_P D vwCl [(a, .inl (cI, 36, .inl f))] H → va_D A [(a, .inl (cI, 36, .inl f))] → va_S A s.heap H locs → lv_has ls 4 [(3, .int 36), (2, .int i), (0, .ref a), (1, .int 0)] → W p l e (rmW 0 0 0 0) s m ([.ref a, .int 0] : List Value).toArray below meth c H locs 0 0 (MQ below (va_Qv (fun w => (∃ (f2 : Nat → Int32), (zr f2 36) ∧ w = [(a, .inl (cI, 36, .inl f2))])) (wD D A) A) ([.ref a, .int 0] : List Value).toArray s 0 0 A) (F0 m 5 ls []) := by
  have S : CallFix p m c cJ7_fill_53178 4 s ([.ref a, .int 0] : List Value).toArray wsJ7_fill_53178 RJ7 := X.1
  intro mN
  induction mN with
  | zero => intro i f hi hfz hm; exact absurd hm (Nat.not_lt_zero _)
  | succ mN ih =>
    intro i f hi hfz hm H locs ls hP hD hS hl
    refine lv_iload_n S.1 S.2.1 dJ7_fill_53178_5 rfl (lv_at hl 1 rfl) ?_
    refine lv_iload_n S.1 S.2.1 dJ7_fill_53178_6 rfl (lv_at hl 0 rfl) ?_
    refine lv_icmp_ge (tgt := 20) S.1 S.2.1 dJ7_fill_53178_7 (by decide) (fun c_101 => ?_) (fun c_101 => ?_)
    · rw [le2 (a := 36) (b := i) (A := 36) (B := i.toInt) rfl rfl] at c_101
      exact K i f (by first | with_reducible assumption | decide | (and_intros <;> first | with_reducible assumption | (intros; refine Int.le_antisymm ?_ ?_ <;> omega) | omega) | assumption | (rw [show Int32.toInt 0 = 0 from rfl]; omega)) (by first | assumption | exact zr_st hfz (by first | with_reducible assumption | assumption) (by first | (and_intros <;> first | with_reducible assumption | (refine Int.le_antisymm ?_ ?_ <;> omega) | omega) | omega) (by first | (and_intros <;> first | with_reducible assumption | (refine Int.le_antisymm ?_ ?_ <;> omega) | omega) | omega)) (by first | with_reducible assumption | decide | (and_intros <;> first | with_reducible assumption | (intros; refine Int.le_antisymm ?_ ?_ <;> omega) | omega) | assumption | (rw [show Int32.toInt 0 = 0 from rfl]; omega)) H _ ls hP hD hS (lv_sub hl [0, 1, 2, 3] rfl)
    · rw [le2 (a := 36) (b := i) (A := 36) (B := i.toInt) rfl rfl] at c_101
      refine lv_aload_n S.1 S.2.1 dJ7_fill_53178_10 rfl (lv_at hl 2 rfl) ?_
      refine lv_iload_n S.1 S.2.1 dJ7_fill_53178_11 rfl (lv_at hl 1 rfl) ?_
      refine lv_iload_n S.1 S.2.1 dJ7_fill_53178_12 rfl (lv_at hl 3 rfl) ?_
      refine va_iast S.1 S.2.1 hK.1 hP hD hS 0 0 rfl rfl (in_of (n := 36) (by  omega) (by  omega)) dJ7_fill_53178_13 (fun H locs hP hD hS => ?_)
      obtain ⟨f_102, hf_102⟩ : ∃ g, (upd f i.toNatClampNeg (0)) = g := ⟨_, rfl⟩
      have hP : va_P D vwCl [(a, .inl (cI, 36, .inl (upd f i.toNatClampNeg (0))))] H := hP
      have hD : va_D A [(a, .inl (cI, 36, .inl (upd f i.toNatClampNeg (0))))] := hD
      rw [hf_102] at hP hD
      obtain ⟨x_103, ex_103⟩ : ∃ y : Int32, y = i + Int32.ofInt (1) := ⟨_, rfl⟩
      refine lv_iinc (v := x_103) (lv' := [(2, .int x_103), (3, .int 36), (0, .ref a), (1, .int 0)]) S.1 S.2.1 dJ7_fill_53178_14 hl (k := 1) rfl ex_103.symm (by decide) rfl (fun ls hl => ?_)
      have tx_103 : x_103.toInt = i.toInt + (1) := addI (A := i.toInt) (B := 1) ex_103 rfl rfl (by  omega) (by  omega)
      refine lv_goto (tgt := 5) S.1 S.2.1 dJ7_fill_53178_17 (by decide) ?_
      exact ih x_103 f_102 (by first | with_reducible assumption | decide | (and_intros <;> first | with_reducible assumption | (intros; refine Int.le_antisymm ?_ ?_ <;> omega) | omega) | assumption | (rw [show Int32.toInt 0 = 0 from rfl]; omega)) (by first | assumption | exact zr_st hfz (by first | with_reducible assumption | assumption) (by first | (and_intros <;> first | with_reducible assumption | (refine Int.le_antisymm ?_ ?_ <;> omega) | omega) | omega) (by first | (and_intros <;> first | with_reducible assumption | (refine Int.le_antisymm ?_ ?_ <;> omega) | omega) | omega)) (by first | (and_intros <;> first | with_reducible assumption | (refine Int.le_antisymm ?_ ?_ <;> omega) | omega) | omega) H _ ls hP hD hS (lv_sub hl [1, 0, 2, 3] rfl)
set_option maxHeartbeats 4000000 in
set_option maxRecDepth 100000 in
theorem s_J7_fill_53178_36 (l : Launch) (D : va_G) (cI cZ cC cS : ClassId) (sq : Nat → Nat) (sz : Nat) (a : Nat) (f0 : Nat → Int32) : mV l yJ7_fill_53178 wsJ7_fill_53178 0 0 0 0 D (tyW cI cZ cC cS) sq [(a, .inl (cI, 36, .inl f0))] sz [.ref a, .int 0] (fun w => (∃ (f2 : Nat → Int32), (zr f2 36) ∧ w = [(a, .inl (cI, 36, .inl f2))])) := by
  refine b_metV (cc := cJ7_fill_53178) (maxL := 4) (ret := none) (by decide) rfl (Nat.le_of_ble_eq_true rfl) ?_
  intro p e s m below meth c ls A H X hsz hP hK hT hD hA hS hl
  have S : CallFix p m c cJ7_fill_53178 4 s ([.ref a, .int 0] : List Value).toArray wsJ7_fill_53178 RJ7 := X.1
  have hl : lv_has ls 4 [(0, .ref a), (1, .int 0)] := hl
  refine lv_iconst (v := (0)) S.1 S.2.1 dJ7_fill_53178_0 (by decide) ?_
  refine lv_istore_n (lv' := [(2, .int 0), (0, .ref a), (1, .int 0)]) S.1 S.2.1 dJ7_fill_53178_1 rfl hl (by decide) rfl (fun ls hl => ?_)
  refine lv_aload_n S.1 S.2.1 dJ7_fill_53178_2 rfl (lv_at hl 1 rfl) ?_
  refine va_alen (v := 36) S.1 S.2.1 hK.1 hP 0 0 rfl rfl rfl dJ7_fill_53178_3 ?_
  refine lv_istore_n (lv' := [(3, .int 36), (2, .int 0), (0, .ref a), (1, .int 0)]) S.1 S.2.1 dJ7_fill_53178_4 rfl hl (by decide) rfl (fun ls hl => ?_)
  refine lp_fill_36 l D cI cZ cC cS sq a f0 X hK hT hA (fun i_1 f_2 hi_3 hi_4 hi_5 H locs ls hP hD hS hl => ?_) _ (0) f0 (by first | with_reducible assumption | decide | (and_intros <;> first | with_reducible assumption | (intros; refine Int.le_antisymm ?_ ?_ <;> omega) | omega) | assumption | (rw [show Int32.toInt 0 = 0 from rfl]; omega)) (zr_0 (by decide)) (Nat.lt_succ_self _) H _ ls hP hD hS (lv_sub hl [0, 1, 2, 3] rfl)
  exact b_vret S.1 S.2.1 X.2.1 X.2.2.1 hP hD hS ⟨f_2, (zr_sub (by first | with_reducible assumption | assumption) (by first | with_reducible assumption | assumption)), rfl⟩ dJ7_fill_53178_20
set_option maxHeartbeats 4000000 in
set_option maxRecDepth 100000 in
theorem lp_fill_21 {p : Program} (l : Launch) {e : Env} {s : State} {m : MethodId} {below : List Frame} {meth : Method} {c : Code} (D : va_G) (cI cZ cC cS : ClassId) (sq : Nat → Nat) (a : Nat) (f0 : Nat → Int32) {A : Nat → Prop} (X : bX p s m meth c cJ7_fill_53178 4 wsJ7_fill_53178 yJ7_fill_53178 none [.ref a, .int 0]) (hK : kW D (tyW cI cZ cC cS) sq s) (hT : sT sq A s s.heap) (hA : ∀ q, s.heap.size ≤ q → A q) (K : ∀ (i : Int32) (f : Nat → Int32), (0 ≤ i.toInt ∧ i.toInt ≤ 21) → (zr f i.toInt) → (21 ≤ i.toInt) → ∀ (H : Heap) (locs : List Loc) (ls : Array Slot), va_P D vwCl [(a, .inl (cI, 21, .inl f))] H → va_D A [(a, .inl (cI, 21, .inl f))] → va_S A s.heap H locs → lv_has ls 4 [(3, .int 21), (2, .int i), (0, .ref a), (1, .int 0)] → W p l e (rmW 0 0 0 0) s m ([.ref a, .int 0] : List Value).toArray below meth c H locs 0 0 (MQ below (va_Qv (fun w => (∃ (f2 : Nat → Int32), (zr f2 21) ∧ w = [(a, .inl (cI, 21, .inl f2))])) (wD D A) A) ([.ref a, .int 0] : List Value).toArray s 0 0 A) (F0 m 20 ls [])) : ∀ (mN : Nat) (i : Int32) (f : Nat → Int32), (0 ≤ i.toInt ∧ i.toInt ≤ 21) → (zr f i.toInt) → ((21 - i.toInt).toNat < mN) → ∀ (H : Heap) (locs : List Loc) (ls : Array Slot), va_P D vwCl [(a, .inl (cI, 21, .inl f))] H → va_D A [(a, .inl (cI, 21, .inl f))] → va_S A s.heap H locs → lv_has ls 4 [(3, .int 21), (2, .int i), (0, .ref a), (1, .int 0)] → W p l e (rmW 0 0 0 0) s m ([.ref a, .int 0] : List Value).toArray below meth c H locs 0 0 (MQ below (va_Qv (fun w => (∃ (f2 : Nat → Int32), (zr f2 21) ∧ w = [(a, .inl (cI, 21, .inl f2))])) (wD D A) A) ([.ref a, .int 0] : List Value).toArray s 0 0 A) (F0 m 5 ls []) := by
  have S : CallFix p m c cJ7_fill_53178 4 s ([.ref a, .int 0] : List Value).toArray wsJ7_fill_53178 RJ7 := X.1
  intro mN
  induction mN with
  | zero => intro i f hi hfz hm; exact absurd hm (Nat.not_lt_zero _)
  | succ mN ih =>
    intro i f hi hfz hm H locs ls hP hD hS hl
    refine lv_iload_n S.1 S.2.1 dJ7_fill_53178_5 rfl (lv_at hl 1 rfl) ?_
    refine lv_iload_n S.1 S.2.1 dJ7_fill_53178_6 rfl (lv_at hl 0 rfl) ?_
    refine lv_icmp_ge (tgt := 20) S.1 S.2.1 dJ7_fill_53178_7 (by decide) (fun c_101 => ?_) (fun c_101 => ?_)
    · rw [le2 (a := 21) (b := i) (A := 21) (B := i.toInt) rfl rfl] at c_101
      exact K i f (by first | with_reducible assumption | decide | (and_intros <;> first | with_reducible assumption | (intros; refine Int.le_antisymm ?_ ?_ <;> omega) | omega) | assumption | (rw [show Int32.toInt 0 = 0 from rfl]; omega)) (by first | assumption | exact zr_st hfz (by first | with_reducible assumption | assumption) (by first | (and_intros <;> first | with_reducible assumption | (refine Int.le_antisymm ?_ ?_ <;> omega) | omega) | omega) (by first | (and_intros <;> first | with_reducible assumption | (refine Int.le_antisymm ?_ ?_ <;> omega) | omega) | omega)) (by first | with_reducible assumption | decide | (and_intros <;> first | with_reducible assumption | (intros; refine Int.le_antisymm ?_ ?_ <;> omega) | omega) | assumption | (rw [show Int32.toInt 0 = 0 from rfl]; omega)) H _ ls hP hD hS (lv_sub hl [0, 1, 2, 3] rfl)
    · rw [le2 (a := 21) (b := i) (A := 21) (B := i.toInt) rfl rfl] at c_101
      refine lv_aload_n S.1 S.2.1 dJ7_fill_53178_10 rfl (lv_at hl 2 rfl) ?_
      refine lv_iload_n S.1 S.2.1 dJ7_fill_53178_11 rfl (lv_at hl 1 rfl) ?_
      refine lv_iload_n S.1 S.2.1 dJ7_fill_53178_12 rfl (lv_at hl 3 rfl) ?_
      refine va_iast S.1 S.2.1 hK.1 hP hD hS 0 0 rfl rfl (in_of (n := 21) (by  omega) (by  omega)) dJ7_fill_53178_13 (fun H locs hP hD hS => ?_)
      obtain ⟨f_102, hf_102⟩ : ∃ g, (upd f i.toNatClampNeg (0)) = g := ⟨_, rfl⟩
      have hP : va_P D vwCl [(a, .inl (cI, 21, .inl (upd f i.toNatClampNeg (0))))] H := hP
      have hD : va_D A [(a, .inl (cI, 21, .inl (upd f i.toNatClampNeg (0))))] := hD
      rw [hf_102] at hP hD
      obtain ⟨x_103, ex_103⟩ : ∃ y : Int32, y = i + Int32.ofInt (1) := ⟨_, rfl⟩
      refine lv_iinc (v := x_103) (lv' := [(2, .int x_103), (3, .int 21), (0, .ref a), (1, .int 0)]) S.1 S.2.1 dJ7_fill_53178_14 hl (k := 1) rfl ex_103.symm (by decide) rfl (fun ls hl => ?_)
      have tx_103 : x_103.toInt = i.toInt + (1) := addI (A := i.toInt) (B := 1) ex_103 rfl rfl (by  omega) (by  omega)
      refine lv_goto (tgt := 5) S.1 S.2.1 dJ7_fill_53178_17 (by decide) ?_
      exact ih x_103 f_102 (by first | with_reducible assumption | decide | (and_intros <;> first | with_reducible assumption | (intros; refine Int.le_antisymm ?_ ?_ <;> omega) | omega) | assumption | (rw [show Int32.toInt 0 = 0 from rfl]; omega)) (by first | assumption | exact zr_st hfz (by first | with_reducible assumption | assumption) (by first | (and_intros <;> first | with_reducible assumption | (refine Int.le_antisymm ?_ ?_ <;> omega) | omega) | omega) (by first | (and_intros <;> first | with_reducible assumption | (refine Int.le_antisymm ?_ ?_ <;> omega) | omega) | omega)) (by first | (and_intros <;> first | with_reducible assumption | (refine Int.le_antisymm ?_ ?_ <;> omega) | omega) | omega) H _ ls hP hD hS (lv_sub hl [1, 0, 2, 3] rfl)
set_option maxHeartbeats 4000000 in
set_option maxRecDepth 100000 in
theorem s_J7_fill_53178_21 (l : Launch) (D : va_G) (cI cZ cC cS : ClassId) (sq : Nat → Nat) (sz : Nat) (a : Nat) (f0 : Nat → Int32) : mV l yJ7_fill_53178 wsJ7_fill_53178 0 0 0 0 D (tyW cI cZ cC cS) sq [(a, .inl (cI, 21, .inl f0))] sz [.ref a, .int 0] (fun w => (∃ (f2 : Nat → Int32), (zr f2 21) ∧ w = [(a, .inl (cI, 21, .inl f2))])) := by
  refine b_metV (cc := cJ7_fill_53178) (maxL := 4) (ret := none) (by decide) rfl (Nat.le_of_ble_eq_true rfl) ?_
  intro p e s m below meth c ls A H X hsz hP hK hT hD hA hS hl
  have S : CallFix p m c cJ7_fill_53178 4 s ([.ref a, .int 0] : List Value).toArray wsJ7_fill_53178 RJ7 := X.1
  have hl : lv_has ls 4 [(0, .ref a), (1, .int 0)] := hl
  refine lv_iconst (v := (0)) S.1 S.2.1 dJ7_fill_53178_0 (by decide) ?_
  refine lv_istore_n (lv' := [(2, .int 0), (0, .ref a), (1, .int 0)]) S.1 S.2.1 dJ7_fill_53178_1 rfl hl (by decide) rfl (fun ls hl => ?_)
  refine lv_aload_n S.1 S.2.1 dJ7_fill_53178_2 rfl (lv_at hl 1 rfl) ?_
  refine va_alen (v := 21) S.1 S.2.1 hK.1 hP 0 0 rfl rfl rfl dJ7_fill_53178_3 ?_
  refine lv_istore_n (lv' := [(3, .int 21), (2, .int 0), (0, .ref a), (1, .int 0)]) S.1 S.2.1 dJ7_fill_53178_4 rfl hl (by decide) rfl (fun ls hl => ?_)
  refine lp_fill_21 l D cI cZ cC cS sq a f0 X hK hT hA (fun i_1 f_2 hi_3 hi_4 hi_5 H locs ls hP hD hS hl => ?_) _ (0) f0 (by first | with_reducible assumption | decide | (and_intros <;> first | with_reducible assumption | (intros; refine Int.le_antisymm ?_ ?_ <;> omega) | omega) | assumption | (rw [show Int32.toInt 0 = 0 from rfl]; omega)) (zr_0 (by decide)) (Nat.lt_succ_self _) H _ ls hP hD hS (lv_sub hl [0, 1, 2, 3] rfl)
  exact b_vret S.1 S.2.1 X.2.1 X.2.2.1 hP hD hS ⟨f_2, (zr_sub (by first | with_reducible assumption | assumption) (by first | with_reducible assumption | assumption)), rfl⟩ dJ7_fill_53178_20
def putV (ln v : Int32) : Int32 := if ln.toInt = 0 then v.toInt8.toInt32 else if ln.toInt = 1 then v.toInt16.toInt32 else v
set_option maxHeartbeats 4000000 in
set_option maxRecDepth 100000 in
theorem s_X4_isMissing (l : Launch) (D : va_G) (cI cZ cC cS : ClassId) (sq : Nat → Nat) (sz : Nat) (h0 : Nat) (ln : Int32) (sn : Int32) (it : Nat) : mI l yX4_isMissing wsX4_isMissing 0 0 D (tyW cI cZ cC cS) sq [(h0, .inr (4, [.int ln, .int sn, .ref it]))] sz [.ref h0] (fun r w => ((ln.toInt = -1) ∧ r = 1 ∧ w = [(h0, .inr (4, [.int ln, .int sn, .ref it]))]) ∨ ((¬ ln.toInt = -1) ∧ r = 0 ∧ w = [(h0, .inr (4, [.int ln, .int sn, .ref it]))])) := by
  refine b_metI (cc := cX4_isMissing) (maxL := 1) (ret := (some .boolean)) (by decide) rfl (Nat.le_of_ble_eq_true rfl) ?_
  intro p e s m below meth c ls A H X hsz hP hK hT hD hA hS hl
  have S : CallFix p m c cX4_isMissing 1 s ([.ref h0] : List Value).toArray wsX4_isMissing RX4 := X.1
  have hl : lv_has ls 1 [(0, .ref h0)] := hl
  have iX4 := jX4_isMissing_X4
  refine lv_aload_n S.1 S.2.1 dX4_isMissing_0 rfl (lv_at hl 0 rfl) ?_
  refine b_get (v := .int ln) S iX4 hK hP 0 rfl rfl 0 (by decide) (by decide +kernel) rfl dX4_isMissing_1 ?_
  refine lv_iconst (v := (-1)) S.1 S.2.1 dX4_isMissing_4 (by decide) ?_
  refine lv_icmp_ne (tgt := 12) S.1 S.2.1 dX4_isMissing_5 (by decide) (fun c_1 => ?_) (fun c_1 => ?_)
  · rw [eq2 (a := ln) (b := (-1)) (A := ln.toInt) (B := -1) rfl rfl] at c_1
    refine lv_iconst (v := (0)) S.1 S.2.1 dX4_isMissing_12 (by decide) ?_
    exact b_zret S.1 S.2.1 X.2.1 X.2.2.1 rfl hP hD hS (Or.inr (⟨(by first | with_reducible assumption | decide | (and_intros <;> first | with_reducible assumption | (intros; refine Int.le_antisymm ?_ ?_ <;> omega) | omega) | assumption | (rw [show Int32.toInt 0 = 0 from rfl]; omega)), rfl, rfl⟩)) dX4_isMissing_13
  · rw [eq2 (a := ln) (b := (-1)) (A := ln.toInt) (B := -1) rfl rfl] at c_1
    refine lv_iconst (v := (1)) S.1 S.2.1 dX4_isMissing_8 (by decide) ?_
    refine lv_goto (tgt := 13) S.1 S.2.1 dX4_isMissing_9 (by decide) ?_
    exact b_zret S.1 S.2.1 X.2.1 X.2.2.1 rfl hP hD hS (Or.inl ⟨(by first | with_reducible assumption | decide | (and_intros <;> first | with_reducible assumption | (intros; refine Int.le_antisymm ?_ ?_ <;> omega) | omega) | assumption | (rw [show Int32.toInt 0 = 0 from rfl]; omega)), rfl, rfl⟩) dX4_isMissing_13
set_option maxHeartbeats 4000000 in
set_option maxRecDepth 100000 in
theorem s_X4_begin (l : Launch) (D : va_G) (cI cZ cC cS : ClassId) (sq : Nat → Nat) (sz : Nat) (h0 : Nat) (it : Nat) (nl : Int32) (n : Int32) (ln : Int32) (sn : Int32) (f : Nat → Int32) : mV l yX4_begin wsX4_begin 1 40 0 0 D (tyW cI cZ cC cS) sq [(h0, .inr (4, [.int ln, .int sn, .ref it])), (it, .inl (cI, 40, .inl f))] sz [.ref h0, .int nl, .int n] (fun w => (∃ (f2 : Nat → Int32), (zr f2 40) ∧ w = [(h0, .inr (4, [.int nl, .int n, .ref it])), (it, .inl (cI, 40, .inl f2))])) := by
  refine b_metV (cc := cX4_begin) (maxL := 3) (ret := none) (by decide) rfl (Nat.le_of_ble_eq_true rfl) ?_
  intro p e s m below meth c ls A H X hsz hP hK hT hD hA hS hl
  have S : CallFix p m c cX4_begin 3 s ([.ref h0, .int nl, .int n] : List Value).toArray wsX4_begin RX4 := X.1
  have hl : lv_has ls 3 [(0, .ref h0), (1, .int nl), (2, .int n)] := hl
  have iX4 := jX4_begin_X4
  refine lv_aload_n S.1 S.2.1 dX4_begin_0 rfl (lv_at hl 0 rfl) ?_
  refine lv_iload_n S.1 S.2.1 dX4_begin_1 rfl (lv_at hl 1 rfl) ?_
  refine b_put (v := .int nl) S iX4 tyX4 tyX4_ok nmX4 hK hP hD hS 0 rfl rfl 0 (by decide) (by decide +kernel) rfl rfl rfl (Nat.le_of_ble_eq_true rfl) dX4_begin_2 (fun H locs hP hD hS => ?_)
  have hP : va_P D vwCl [(h0, .inr (4, [.int nl, .int sn, .ref it])), (it, .inl (cI, 40, .inl f))] H := hP
  have hD : va_D A [(h0, .inr (4, [.int nl, .int sn, .ref it])), (it, .inl (cI, 40, .inl f))] := hD
  refine lv_aload_n S.1 S.2.1 dX4_begin_5 rfl (lv_at hl 0 rfl) ?_
  refine lv_iload_n S.1 S.2.1 dX4_begin_6 rfl (lv_at hl 2 rfl) ?_
  refine b_put (v := .int n) S iX4 tyX4 tyX4_ok nmX4 hK hP hD hS 0 rfl rfl 1 (by decide) (by decide +kernel) rfl rfl rfl (Nat.le_of_ble_eq_true rfl) dX4_begin_7 (fun H locs hP hD hS => ?_)
  have hP : va_P D vwCl [(h0, .inr (4, [.int nl, .int n, .ref it])), (it, .inl (cI, 40, .inl f))] H := hP
  have hD : va_D A [(h0, .inr (4, [.int nl, .int n, .ref it])), (it, .inl (cI, 40, .inl f))] := hD
  refine lv_aload_n S.1 S.2.1 dX4_begin_10 rfl (lv_at hl 0 rfl) ?_
  refine b_get (v := .ref it) S iX4 hK hP 0 rfl rfl 2 (by decide) (by decide +kernel) rfl dX4_begin_11 ?_
  refine lv_iconst (v := (0)) S.1 S.2.1 dX4_begin_14 (by decide) ?_
  refine b_av (wr := [(h0, .inr (4, [.int nl, .int n, .ref it]))]) (b_runS (As := [.ref it, .int 0]) (s_J7_fill_53178_40 l D cI cZ cC cS sq H.size it f) S gX4_begin_J7_fill_53178 rfl hdS_J7_fill_53178 ⟨Nat.le_of_ble_eq_true rfl, Nat.le_of_ble_eq_true rfl⟩ ⟨Nat.le_of_ble_eq_true rfl, Nat.le_of_ble_eq_true rfl⟩ hK hT hS hA hP hD [1] rfl (by decide) rfl hl.1 rfl (Nat.le_of_ble_eq_true rfl) dX4_begin_15) hP hD hS hA [1] [0] rfl rfl (by decide) (by decide) (fun w_2 H locs hw_3 hP hD hS => ?_)
  obtain ⟨f2_4, hf_5, rfl⟩ := hw_3
  have hP : va_P D vwCl [(h0, .inr (4, [.int nl, .int n, .ref it])), (it, .inl (cI, 40, .inl f2_4))] H := hP
  have hD : va_D A [(h0, .inr (4, [.int nl, .int n, .ref it])), (it, .inl (cI, 40, .inl f2_4))] := hD
  exact b_vret S.1 S.2.1 X.2.1 X.2.2.1 hP hD hS ⟨f2_4, (by first | with_reducible assumption | assumption | omega | decide | (rw [show Int32.toInt 0 = 0 from rfl]; omega)), rfl⟩ dX4_begin_18
set_option maxHeartbeats 4000000 in
set_option maxRecDepth 100000 in
theorem s_X4_put (l : Launch) (D : va_G) (cI cZ cC cS : ClassId) (sq : Nat → Nat) (sz : Nat) (h0 : Nat) (it : Nat) (i : Int32) (v : Int32) (ln : Int32) (sn : Int32) (f : Nat → Int32) (hi : 0 ≤ i.toInt ∧ i.toInt < 40) : mI l yX4_put wsX4_put 0 0 D (tyW cI cZ cC cS) sq [(h0, .inr (4, [.int ln, .int sn, .ref it])), (it, .inl (cI, 40, .inl f))] sz [.ref h0, .int i, .int v] (fun r w => (∃ (f2 : Nat → Int32), (r = putV ln v) ∧ (f2 = upd f i.toNatClampNeg r) ∧ w = [(h0, .inr (4, [.int ln, .int sn, .ref it])), (it, .inl (cI, 40, .inl f2))])) := by
  refine b_metI (cc := cX4_put) (maxL := 4) (ret := (some .int)) (by decide) rfl (Nat.le_of_ble_eq_true rfl) ?_
  intro p e s m below meth c ls A H X hsz hP hK hT hD hA hS hl
  have S : CallFix p m c cX4_put 4 s ([.ref h0, .int i, .int v] : List Value).toArray wsX4_put RX4 := X.1
  have hl : lv_has ls 4 [(0, .ref h0), (1, .int i), (2, .int v)] := hl
  have iX4 := jX4_put_X4
  refine lv_iload_n S.1 S.2.1 dX4_put_0 rfl (lv_at hl 2 rfl) ?_
  refine lv_istore_n (lv' := [(3, .int v), (0, .ref h0), (1, .int i), (2, .int v)]) S.1 S.2.1 dX4_put_1 rfl hl (by decide) rfl (fun ls hl => ?_)
  refine lv_aload_n S.1 S.2.1 dX4_put_2 rfl (lv_at hl 1 rfl) ?_
  refine b_get (v := .int ln) S iX4 hK hP 0 rfl rfl 0 (by decide) (by decide +kernel) rfl dX4_put_3 ?_
  refine lv_if_ne (tgt := 15) S.1 S.2.1 dX4_put_6 (by decide) (fun c_1 => ?_) (fun c_1 => ?_)
  · rw [eq2 (a := ln) (b := 0) (A := ln.toInt) (B := 0) rfl rfl] at c_1
    refine lv_aload_n S.1 S.2.1 dX4_put_15 rfl (lv_at hl 1 rfl) ?_
    refine b_get (v := .int ln) S iX4 hK hP 0 rfl rfl 0 (by decide) (by decide +kernel) rfl dX4_put_16 ?_
    refine lv_iconst (v := (1)) S.1 S.2.1 dX4_put_19 (by decide) ?_
    refine lv_icmp_ne (tgt := 26) S.1 S.2.1 dX4_put_20 (by decide) (fun c_2 => ?_) (fun c_2 => ?_)
    · rw [eq2 (a := ln) (b := 1) (A := ln.toInt) (B := 1) rfl rfl] at c_2
      refine lv_aload_n S.1 S.2.1 dX4_put_26 rfl (lv_at hl 1 rfl) ?_
      refine b_get (v := .ref it) S iX4 hK hP 0 rfl rfl 2 (by decide) (by decide +kernel) rfl dX4_put_27 ?_
      refine lv_iload_n S.1 S.2.1 dX4_put_30 rfl (lv_at hl 2 rfl) ?_
      refine lv_iload_n S.1 S.2.1 dX4_put_31 rfl (lv_at hl 0 rfl) ?_
      refine va_iast S.1 S.2.1 hK.1 hP hD hS 1 0 rfl rfl (in_of (n := 40) (by  omega) (by  omega)) dX4_put_32 (fun H locs hP hD hS => ?_)
      obtain ⟨f_3, hf_3⟩ : ∃ g, (upd f i.toNatClampNeg (v)) = g := ⟨_, rfl⟩
      have hP : va_P D vwCl [(h0, .inr (4, [.int ln, .int sn, .ref it])), (it, .inl (cI, 40, .inl (upd f i.toNatClampNeg (v))))] H := hP
      have hD : va_D A [(h0, .inr (4, [.int ln, .int sn, .ref it])), (it, .inl (cI, 40, .inl (upd f i.toNatClampNeg (v))))] := hD
      rw [hf_3] at hP hD
      refine lv_iload_n S.1 S.2.1 dX4_put_33 rfl (lv_at hl 0 rfl) ?_
      exact b_iret S.1 S.2.1 X.2.1 X.2.2.1 hP hD hS ⟨f_3, (by unfold putV; first | (rw [if_pos (by first | (and_intros <;> first | with_reducible assumption | (refine Int.le_antisymm ?_ ?_ <;> omega) | omega) | omega)]; assumption) | (rw [if_neg (by first | (and_intros <;> first | with_reducible assumption | (refine Int.le_antisymm ?_ ?_ <;> omega) | omega) | omega), if_pos (by first | (and_intros <;> first | with_reducible assumption | (refine Int.le_antisymm ?_ ?_ <;> omega) | omega) | omega)]; assumption) | (rw [if_neg (by first | (and_intros <;> first | with_reducible assumption | (refine Int.le_antisymm ?_ ?_ <;> omega) | omega) | omega), if_neg (by first | (and_intros <;> first | with_reducible assumption | (refine Int.le_antisymm ?_ ?_ <;> omega) | omega) | omega)])), (Eq.symm (by first | with_reducible assumption | assumption)), rfl⟩ dX4_put_34
    · rw [eq2 (a := ln) (b := 1) (A := ln.toInt) (B := 1) rfl rfl] at c_2
      refine lv_iload_n S.1 S.2.1 dX4_put_23 rfl (lv_at hl 3 rfl) ?_
      refine lv_i2s S.1 S.2.1 dX4_put_24 rfl ?_
      refine lv_topi (fun x_4 ex_4 => ?_)
      refine lv_istore_n (lv' := [(3, .int x_4), (0, .ref h0), (1, .int i), (2, .int v)]) S.1 S.2.1 dX4_put_25 rfl hl (by decide) rfl (fun ls hl => ?_)
      refine lv_aload_n S.1 S.2.1 dX4_put_26 rfl (lv_at hl 1 rfl) ?_
      refine b_get (v := .ref it) S iX4 hK hP 0 rfl rfl 2 (by decide) (by decide +kernel) rfl dX4_put_27 ?_
      refine lv_iload_n S.1 S.2.1 dX4_put_30 rfl (lv_at hl 2 rfl) ?_
      refine lv_iload_n S.1 S.2.1 dX4_put_31 rfl (lv_at hl 0 rfl) ?_
      refine va_iast S.1 S.2.1 hK.1 hP hD hS 1 0 rfl rfl (in_of (n := 40) (by  omega) (by  omega)) dX4_put_32 (fun H locs hP hD hS => ?_)
      obtain ⟨f_5, hf_5⟩ : ∃ g, (upd f i.toNatClampNeg (x_4)) = g := ⟨_, rfl⟩
      have hP : va_P D vwCl [(h0, .inr (4, [.int ln, .int sn, .ref it])), (it, .inl (cI, 40, .inl (upd f i.toNatClampNeg (x_4))))] H := hP
      have hD : va_D A [(h0, .inr (4, [.int ln, .int sn, .ref it])), (it, .inl (cI, 40, .inl (upd f i.toNatClampNeg (x_4))))] := hD
      rw [hf_5] at hP hD
      refine lv_iload_n S.1 S.2.1 dX4_put_33 rfl (lv_at hl 0 rfl) ?_
      exact b_iret S.1 S.2.1 X.2.1 X.2.2.1 hP hD hS ⟨f_5, (by unfold putV; first | (rw [if_pos (by first | (and_intros <;> first | with_reducible assumption | (refine Int.le_antisymm ?_ ?_ <;> omega) | omega) | omega)]; assumption) | (rw [if_neg (by first | (and_intros <;> first | with_reducible assumption | (refine Int.le_antisymm ?_ ?_ <;> omega) | omega) | omega), if_pos (by first | (and_intros <;> first | with_reducible assumption | (refine Int.le_antisymm ?_ ?_ <;> omega) | omega) | omega)]; assumption) | (rw [if_neg (by first | (and_intros <;> first | with_reducible assumption | (refine Int.le_antisymm ?_ ?_ <;> omega) | omega) | omega), if_neg (by first | (and_intros <;> first | with_reducible assumption | (refine Int.le_antisymm ?_ ?_ <;> omega) | omega) | omega)])), (Eq.symm (by first | with_reducible assumption | assumption)), rfl⟩ dX4_put_34
  · rw [eq2 (a := ln) (b := 0) (A := ln.toInt) (B := 0) rfl rfl] at c_1
    refine lv_iload_n S.1 S.2.1 dX4_put_9 rfl (lv_at hl 3 rfl) ?_
    refine lv_i2b S.1 S.2.1 dX4_put_10 rfl ?_
    refine lv_topi (fun x_6 ex_6 => ?_)
    refine lv_istore_n (lv' := [(3, .int x_6), (0, .ref h0), (1, .int i), (2, .int v)]) S.1 S.2.1 dX4_put_11 rfl hl (by decide) rfl (fun ls hl => ?_)
    refine lv_goto (tgt := 26) S.1 S.2.1 dX4_put_12 (by decide) ?_
    refine lv_aload_n S.1 S.2.1 dX4_put_26 rfl (lv_at hl 1 rfl) ?_
    refine b_get (v := .ref it) S iX4 hK hP 0 rfl rfl 2 (by decide) (by decide +kernel) rfl dX4_put_27 ?_
    refine lv_iload_n S.1 S.2.1 dX4_put_30 rfl (lv_at hl 2 rfl) ?_
    refine lv_iload_n S.1 S.2.1 dX4_put_31 rfl (lv_at hl 0 rfl) ?_
    refine va_iast S.1 S.2.1 hK.1 hP hD hS 1 0 rfl rfl (in_of (n := 40) (by  omega) (by  omega)) dX4_put_32 (fun H locs hP hD hS => ?_)
    obtain ⟨f_7, hf_7⟩ : ∃ g, (upd f i.toNatClampNeg (x_6)) = g := ⟨_, rfl⟩
    have hP : va_P D vwCl [(h0, .inr (4, [.int ln, .int sn, .ref it])), (it, .inl (cI, 40, .inl (upd f i.toNatClampNeg (x_6))))] H := hP
    have hD : va_D A [(h0, .inr (4, [.int ln, .int sn, .ref it])), (it, .inl (cI, 40, .inl (upd f i.toNatClampNeg (x_6))))] := hD
    rw [hf_7] at hP hD
    refine lv_iload_n S.1 S.2.1 dX4_put_33 rfl (lv_at hl 0 rfl) ?_
    exact b_iret S.1 S.2.1 X.2.1 X.2.2.1 hP hD hS ⟨f_7, (by unfold putV; first | (rw [if_pos (by first | (and_intros <;> first | with_reducible assumption | (refine Int.le_antisymm ?_ ?_ <;> omega) | omega) | omega)]; assumption) | (rw [if_neg (by first | (and_intros <;> first | with_reducible assumption | (refine Int.le_antisymm ?_ ?_ <;> omega) | omega) | omega), if_pos (by first | (and_intros <;> first | with_reducible assumption | (refine Int.le_antisymm ?_ ?_ <;> omega) | omega) | omega)]; assumption) | (rw [if_neg (by first | (and_intros <;> first | with_reducible assumption | (refine Int.le_antisymm ?_ ?_ <;> omega) | omega) | omega), if_neg (by first | (and_intros <;> first | with_reducible assumption | (refine Int.le_antisymm ?_ ?_ <;> omega) | omega) | omega)])), (Eq.symm (by first | with_reducible assumption | assumption)), rfl⟩ dX4_put_34
set_option maxHeartbeats 4000000 in
set_option maxRecDepth 100000 in
theorem s_X4_hasRow (l : Launch) (D : va_G) (cI cZ cC cS : ClassId) (sq : Nat → Nat) (sz : Nat) (h0 : Nat) (i : Int32) (n : Int32) (ln : Int32) (sn : Int32) (it : Nat) (hs : 0 ≤ sn.toInt ∧ sn.toInt ≤ 40) : mI l yX4_hasRow wsX4_hasRow 0 0 D (tyW cI cZ cC cS) sq [(h0, .inr (4, [.int ln, .int sn, .ref it]))] sz [.ref h0, .int i, .int n] (fun r w => ((0 ≤ i.toInt ∧ 0 ≤ n.toInt ∧ i.toInt + n.toInt ≤ sn.toInt) ∧ r = 1 ∧ w = [(h0, .inr (4, [.int ln, .int sn, .ref it]))]) ∨ ((¬ (0 ≤ i.toInt ∧ 0 ≤ n.toInt ∧ i.toInt + n.toInt ≤ sn.toInt)) ∧ r = 0 ∧ w = [(h0, .inr (4, [.int ln, .int sn, .ref it]))])) := by
  refine b_metI (cc := cX4_hasRow) (maxL := 3) (ret := (some .boolean)) (by decide) rfl (Nat.le_of_ble_eq_true rfl) ?_
  intro p e s m below meth c ls A H X hsz hP hK hT hD hA hS hl
  have S : CallFix p m c cX4_hasRow 3 s ([.ref h0, .int i, .int n] : List Value).toArray wsX4_hasRow RX4 := X.1
  have hl : lv_has ls 3 [(0, .ref h0), (1, .int i), (2, .int n)] := hl
  have iX4 := jX4_hasRow_X4
  refine lv_iload_n S.1 S.2.1 dX4_hasRow_0 rfl (lv_at hl 1 rfl) ?_
  refine lv_if_lt (tgt := 30) S.1 S.2.1 dX4_hasRow_1 (by decide) (fun c_1 => ?_) (fun c_1 => ?_)
  · rw [lt2 (a := i) (b := 0) (A := i.toInt) (B := 0) rfl rfl] at c_1
    refine lv_iconst (v := (0)) S.1 S.2.1 dX4_hasRow_30 (by decide) ?_
    exact b_zret S.1 S.2.1 X.2.1 X.2.2.1 rfl hP hD hS (Or.inr (⟨(by first | with_reducible assumption | decide | (and_intros <;> first | with_reducible assumption | (intros; refine Int.le_antisymm ?_ ?_ <;> omega) | omega) | assumption | (rw [show Int32.toInt 0 = 0 from rfl]; omega)), rfl, rfl⟩)) dX4_hasRow_31
  · rw [lt2 (a := i) (b := 0) (A := i.toInt) (B := 0) rfl rfl] at c_1
    refine lv_iload_n S.1 S.2.1 dX4_hasRow_4 rfl (lv_at hl 2 rfl) ?_
    refine lv_if_lt (tgt := 30) S.1 S.2.1 dX4_hasRow_5 (by decide) (fun c_2 => ?_) (fun c_2 => ?_)
    · rw [lt2 (a := n) (b := 0) (A := n.toInt) (B := 0) rfl rfl] at c_2
      refine lv_iconst (v := (0)) S.1 S.2.1 dX4_hasRow_30 (by decide) ?_
      exact b_zret S.1 S.2.1 X.2.1 X.2.2.1 rfl hP hD hS (Or.inr (⟨(by first | with_reducible assumption | decide | (and_intros <;> first | with_reducible assumption | (intros; refine Int.le_antisymm ?_ ?_ <;> omega) | omega) | assumption | (rw [show Int32.toInt 0 = 0 from rfl]; omega)), rfl, rfl⟩)) dX4_hasRow_31
    · rw [lt2 (a := n) (b := 0) (A := n.toInt) (B := 0) rfl rfl] at c_2
      refine lv_iload_n S.1 S.2.1 dX4_hasRow_8 rfl (lv_at hl 1 rfl) ?_
      refine lv_aload_n S.1 S.2.1 dX4_hasRow_9 rfl (lv_at hl 0 rfl) ?_
      refine b_get (v := .int sn) S iX4 hK hP 0 rfl rfl 1 (by decide) (by decide +kernel) rfl dX4_hasRow_10 ?_
      refine lv_icmp_gt (tgt := 30) S.1 S.2.1 dX4_hasRow_13 (by decide) (fun c_3 => ?_) (fun c_3 => ?_)
      · rw [lt2 (a := sn) (b := i) (A := sn.toInt) (B := i.toInt) rfl rfl] at c_3
        refine lv_iconst (v := (0)) S.1 S.2.1 dX4_hasRow_30 (by decide) ?_
        exact b_zret S.1 S.2.1 X.2.1 X.2.2.1 rfl hP hD hS (Or.inr (⟨(by first | with_reducible assumption | decide | (and_intros <;> first | with_reducible assumption | (intros; refine Int.le_antisymm ?_ ?_ <;> omega) | omega) | assumption | (rw [show Int32.toInt 0 = 0 from rfl]; omega)), rfl, rfl⟩)) dX4_hasRow_31
      · rw [lt2 (a := sn) (b := i) (A := sn.toInt) (B := i.toInt) rfl rfl] at c_3
        refine lv_iload_n S.1 S.2.1 dX4_hasRow_16 rfl (lv_at hl 2 rfl) ?_
        refine lv_aload_n S.1 S.2.1 dX4_hasRow_17 rfl (lv_at hl 0 rfl) ?_
        refine b_get (v := .int sn) S iX4 hK hP 0 rfl rfl 1 (by decide) (by decide +kernel) rfl dX4_hasRow_18 ?_
        refine lv_iload_n S.1 S.2.1 dX4_hasRow_21 rfl (lv_at hl 1 rfl) ?_
        refine lv_isub S.1 S.2.1 dX4_hasRow_22 ?_
        refine lv_topi (fun x_4 ex_4 => ?_)
        have tx_4 : x_4.toInt = sn.toInt - (i.toInt) := subI (A := sn.toInt) (B := i.toInt) ex_4 rfl rfl (by  omega) (by  omega)
        refine lv_icmp_gt (tgt := 30) S.1 S.2.1 dX4_hasRow_23 (by decide) (fun c_5 => ?_) (fun c_5 => ?_)
        · rw [lt2 (a := x_4) (b := n) (A := x_4.toInt) (B := n.toInt) rfl rfl] at c_5
          refine lv_iconst (v := (0)) S.1 S.2.1 dX4_hasRow_30 (by decide) ?_
          exact b_zret S.1 S.2.1 X.2.1 X.2.2.1 rfl hP hD hS (Or.inr (⟨(by first | with_reducible assumption | decide | (and_intros <;> first | with_reducible assumption | (intros; refine Int.le_antisymm ?_ ?_ <;> omega) | omega) | assumption | (rw [show Int32.toInt 0 = 0 from rfl]; omega)), rfl, rfl⟩)) dX4_hasRow_31
        · rw [lt2 (a := x_4) (b := n) (A := x_4.toInt) (B := n.toInt) rfl rfl] at c_5
          refine lv_iconst (v := (1)) S.1 S.2.1 dX4_hasRow_26 (by decide) ?_
          refine lv_goto (tgt := 31) S.1 S.2.1 dX4_hasRow_27 (by decide) ?_
          exact b_zret S.1 S.2.1 X.2.1 X.2.2.1 rfl hP hD hS (Or.inl ⟨(by first | with_reducible assumption | decide | (and_intros <;> first | with_reducible assumption | (intros; refine Int.le_antisymm ?_ ?_ <;> omega) | omega) | assumption | (rw [show Int32.toInt 0 = 0 from rfl]; omega)), rfl, rfl⟩) dX4_hasRow_31
