set_option maxRecDepth 20000 in
theorem gdX5_append_0 : decode cX5_append 0 = .ok (.iload_n 3, 1) ∧ decode cX5_append 1 = .ok (.iconst 1, 1) ∧ decode cX5_append 2 = .ok (.isub, 1) ∧ decode cX5_append 3 = .ok (.istore 4, 2) ∧ decode cX5_append 5 = .ok (.iload 4, 2) ∧ decode cX5_append 7 = .ok (.ifCond .lt 40, 3) ∧ decode cX5_append 10 = .ok (.aload_n 0, 1) ∧ decode cX5_append 11 = .ok (.getfield 9, 3) := by decide +kernel
theorem dX5_append_0 : decode cX5_append 0 = .ok (.iload_n 3, 1) := gdX5_append_0.1
theorem dX5_append_1 : decode cX5_append 1 = .ok (.iconst 1, 1) := gdX5_append_0.2.1
theorem dX5_append_2 : decode cX5_append 2 = .ok (.isub, 1) := gdX5_append_0.2.2.1
theorem dX5_append_3 : decode cX5_append 3 = .ok (.istore 4, 2) := gdX5_append_0.2.2.2.1
theorem dX5_append_5 : decode cX5_append 5 = .ok (.iload 4, 2) := gdX5_append_0.2.2.2.2.1
theorem dX5_append_7 : decode cX5_append 7 = .ok (.ifCond .lt 40, 3) := gdX5_append_0.2.2.2.2.2.1
theorem dX5_append_10 : decode cX5_append 10 = .ok (.aload_n 0, 1) := gdX5_append_0.2.2.2.2.2.2.1
theorem dX5_append_11 : decode cX5_append 11 = .ok (.getfield 9, 3) := gdX5_append_0.2.2.2.2.2.2.2
set_option maxRecDepth 20000 in
theorem gdX5_append_14 : decode cX5_append 14 = .ok (.aload_n 0, 1) ∧ decode cX5_append 15 = .ok (.getfield 13, 3) ∧ decode cX5_append 18 = .ok (.lload_n 1, 1) ∧ decode cX5_append 19 = .ok (.bipush 8, 2) ∧ decode cX5_append 21 = .ok (.iload 4, 2) ∧ decode cX5_append 23 = .ok (.imul, 1) ∧ decode cX5_append 24 = .ok (.lushr, 1) ∧ decode cX5_append 25 = .ok (.l2i, 1) := by decide +kernel
theorem dX5_append_14 : decode cX5_append 14 = .ok (.aload_n 0, 1) := gdX5_append_14.1
theorem dX5_append_15 : decode cX5_append 15 = .ok (.getfield 13, 3) := gdX5_append_14.2.1
theorem dX5_append_18 : decode cX5_append 18 = .ok (.lload_n 1, 1) := gdX5_append_14.2.2.1
theorem dX5_append_19 : decode cX5_append 19 = .ok (.bipush 8, 2) := gdX5_append_14.2.2.2.1
theorem dX5_append_21 : decode cX5_append 21 = .ok (.iload 4, 2) := gdX5_append_14.2.2.2.2.1
theorem dX5_append_23 : decode cX5_append 23 = .ok (.imul, 1) := gdX5_append_14.2.2.2.2.2.1
theorem dX5_append_24 : decode cX5_append 24 = .ok (.lushr, 1) := gdX5_append_14.2.2.2.2.2.2.1
theorem dX5_append_25 : decode cX5_append 25 = .ok (.l2i, 1) := gdX5_append_14.2.2.2.2.2.2.2
set_option maxRecDepth 20000 in
theorem gdX5_append_26 : decode cX5_append 26 = .ok (.sipush 255, 3) ∧ decode cX5_append 29 = .ok (.iand, 1) ∧ decode cX5_append 30 = .ok (.iastore, 1) ∧ decode cX5_append 31 = .ok (.aload_n 0, 1) ∧ decode cX5_append 32 = .ok (.dup, 1) ∧ decode cX5_append 33 = .ok (.getfield 13, 3) ∧ decode cX5_append 36 = .ok (.iconst 1, 1) ∧ decode cX5_append 37 = .ok (.iadd, 1) := by decide +kernel
theorem dX5_append_26 : decode cX5_append 26 = .ok (.sipush 255, 3) := gdX5_append_26.1
theorem dX5_append_29 : decode cX5_append 29 = .ok (.iand, 1) := gdX5_append_26.2.1
theorem dX5_append_30 : decode cX5_append 30 = .ok (.iastore, 1) := gdX5_append_26.2.2.1
theorem dX5_append_31 : decode cX5_append 31 = .ok (.aload_n 0, 1) := gdX5_append_26.2.2.2.1
theorem dX5_append_32 : decode cX5_append 32 = .ok (.dup, 1) := gdX5_append_26.2.2.2.2.1
theorem dX5_append_33 : decode cX5_append 33 = .ok (.getfield 13, 3) := gdX5_append_26.2.2.2.2.2.1
theorem dX5_append_36 : decode cX5_append 36 = .ok (.iconst 1, 1) := gdX5_append_26.2.2.2.2.2.2.1
theorem dX5_append_37 : decode cX5_append 37 = .ok (.iadd, 1) := gdX5_append_26.2.2.2.2.2.2.2
set_option maxRecDepth 20000 in
theorem gdX5_append_38 : decode cX5_append 38 = .ok (.putfield 13, 3) ∧ decode cX5_append 41 = .ok (.iinc 4 (-1), 3) ∧ decode cX5_append 44 = .ok (.goto (-39), 3) ∧ decode cX5_append 47 = .ok (.return_, 1) := by decide +kernel
theorem dX5_append_38 : decode cX5_append 38 = .ok (.putfield 13, 3) := gdX5_append_38.1
theorem dX5_append_41 : decode cX5_append 41 = .ok (.iinc 4 (-1), 3) := gdX5_append_38.2.1
theorem dX5_append_44 : decode cX5_append 44 = .ok (.goto (-39), 3) := gdX5_append_38.2.2.1
theorem dX5_append_47 : decode cX5_append 47 = .ok (.return_, 1) := gdX5_append_38.2.2.2
set_option maxRecDepth 20000 in
theorem gdX5_hasRoom_0 : decode cX5_hasRoom 0 = .ok (.iload_n 1, 1) ∧ decode cX5_hasRoom 1 = .ok (.sipush 400, 3) ∧ decode cX5_hasRoom 4 = .ok (.aload_n 0, 1) ∧ decode cX5_hasRoom 5 = .ok (.getfield 13, 3) ∧ decode cX5_hasRoom 8 = .ok (.isub, 1) ∧ decode cX5_hasRoom 9 = .ok (.if_icmp .gt 7, 3) ∧ decode cX5_hasRoom 12 = .ok (.iconst 1, 1) ∧ decode cX5_hasRoom 13 = .ok (.goto 4, 3) := by decide +kernel
theorem dX5_hasRoom_0 : decode cX5_hasRoom 0 = .ok (.iload_n 1, 1) := gdX5_hasRoom_0.1
theorem dX5_hasRoom_1 : decode cX5_hasRoom 1 = .ok (.sipush 400, 3) := gdX5_hasRoom_0.2.1
theorem dX5_hasRoom_4 : decode cX5_hasRoom 4 = .ok (.aload_n 0, 1) := gdX5_hasRoom_0.2.2.1
theorem dX5_hasRoom_5 : decode cX5_hasRoom 5 = .ok (.getfield 13, 3) := gdX5_hasRoom_0.2.2.2.1
theorem dX5_hasRoom_8 : decode cX5_hasRoom 8 = .ok (.isub, 1) := gdX5_hasRoom_0.2.2.2.2.1
theorem dX5_hasRoom_9 : decode cX5_hasRoom 9 = .ok (.if_icmp .gt 7, 3) := gdX5_hasRoom_0.2.2.2.2.2.1
theorem dX5_hasRoom_12 : decode cX5_hasRoom 12 = .ok (.iconst 1, 1) := gdX5_hasRoom_0.2.2.2.2.2.2.1
theorem dX5_hasRoom_13 : decode cX5_hasRoom 13 = .ok (.goto 4, 3) := gdX5_hasRoom_0.2.2.2.2.2.2.2
theorem dX5_hasRoom_16 : decode cX5_hasRoom 16 = .ok (.iconst 0, 1) := by decide +kernel
theorem dX5_hasRoom_17 : decode cX5_hasRoom 17 = .ok (.ireturn, 1) := by decide +kernel
set_option maxRecDepth 20000 in
theorem gdX5_length_0 : decode cX5_length 0 = .ok (.aload_n 0, 1) ∧ decode cX5_length 1 = .ok (.getfield 23, 3) ∧ decode cX5_length 4 = .ok (.aload_n 0, 1) ∧ decode cX5_length 5 = .ok (.getfield 20, 3) ∧ decode cX5_length 8 = .ok (.isub, 1) ∧ decode cX5_length 9 = .ok (.ireturn, 1) := by decide +kernel
theorem dX5_length_0 : decode cX5_length 0 = .ok (.aload_n 0, 1) := gdX5_length_0.1
theorem dX5_length_1 : decode cX5_length 1 = .ok (.getfield 23, 3) := gdX5_length_0.2.1
theorem dX5_length_4 : decode cX5_length 4 = .ok (.aload_n 0, 1) := gdX5_length_0.2.2.1
theorem dX5_length_5 : decode cX5_length 5 = .ok (.getfield 20, 3) := gdX5_length_0.2.2.2.1
theorem dX5_length_8 : decode cX5_length 8 = .ok (.isub, 1) := gdX5_length_0.2.2.2.2.1
theorem dX5_length_9 : decode cX5_length 9 = .ok (.ireturn, 1) := gdX5_length_0.2.2.2.2.2
set_option maxRecDepth 20000 in
theorem gdX5_sortOf_0 : decode cX5_sortOf 0 = .ok (.iload_n 0, 1) ∧ decode cX5_sortOf 1 = .ok (.bipush 97, 2) ∧ decode cX5_sortOf 3 = .ok (.if_icmp .lt 11, 3) ∧ decode cX5_sortOf 6 = .ok (.iload_n 0, 1) ∧ decode cX5_sortOf 7 = .ok (.bipush 122, 2) ∧ decode cX5_sortOf 9 = .ok (.if_icmp .gt 5, 3) ∧ decode cX5_sortOf 12 = .ok (.iconst 1, 1) ∧ decode cX5_sortOf 13 = .ok (.ireturn, 1) := by decide +kernel
theorem dX5_sortOf_0 : decode cX5_sortOf 0 = .ok (.iload_n 0, 1) := gdX5_sortOf_0.1
theorem dX5_sortOf_1 : decode cX5_sortOf 1 = .ok (.bipush 97, 2) := gdX5_sortOf_0.2.1
theorem dX5_sortOf_3 : decode cX5_sortOf 3 = .ok (.if_icmp .lt 11, 3) := gdX5_sortOf_0.2.2.1
theorem dX5_sortOf_6 : decode cX5_sortOf 6 = .ok (.iload_n 0, 1) := gdX5_sortOf_0.2.2.2.1
theorem dX5_sortOf_7 : decode cX5_sortOf 7 = .ok (.bipush 122, 2) := gdX5_sortOf_0.2.2.2.2.1
theorem dX5_sortOf_9 : decode cX5_sortOf 9 = .ok (.if_icmp .gt 5, 3) := gdX5_sortOf_0.2.2.2.2.2.1
theorem dX5_sortOf_12 : decode cX5_sortOf 12 = .ok (.iconst 1, 1) := gdX5_sortOf_0.2.2.2.2.2.2.1
theorem dX5_sortOf_13 : decode cX5_sortOf 13 = .ok (.ireturn, 1) := gdX5_sortOf_0.2.2.2.2.2.2.2
set_option maxRecDepth 20000 in
theorem gdX5_sortOf_14 : decode cX5_sortOf 14 = .ok (.iload_n 0, 1) ∧ decode cX5_sortOf 15 = .ok (.bipush 48, 2) ∧ decode cX5_sortOf 17 = .ok (.if_icmp .lt 11, 3) ∧ decode cX5_sortOf 20 = .ok (.iload_n 0, 1) ∧ decode cX5_sortOf 21 = .ok (.bipush 57, 2) ∧ decode cX5_sortOf 23 = .ok (.if_icmp .gt 5, 3) ∧ decode cX5_sortOf 26 = .ok (.iconst 2, 1) ∧ decode cX5_sortOf 27 = .ok (.ireturn, 1) := by decide +kernel
theorem dX5_sortOf_14 : decode cX5_sortOf 14 = .ok (.iload_n 0, 1) := gdX5_sortOf_14.1
theorem dX5_sortOf_15 : decode cX5_sortOf 15 = .ok (.bipush 48, 2) := gdX5_sortOf_14.2.1
theorem dX5_sortOf_17 : decode cX5_sortOf 17 = .ok (.if_icmp .lt 11, 3) := gdX5_sortOf_14.2.2.1
theorem dX5_sortOf_20 : decode cX5_sortOf 20 = .ok (.iload_n 0, 1) := gdX5_sortOf_14.2.2.2.1
theorem dX5_sortOf_21 : decode cX5_sortOf 21 = .ok (.bipush 57, 2) := gdX5_sortOf_14.2.2.2.2.1
theorem dX5_sortOf_23 : decode cX5_sortOf 23 = .ok (.if_icmp .gt 5, 3) := gdX5_sortOf_14.2.2.2.2.2.1
theorem dX5_sortOf_26 : decode cX5_sortOf 26 = .ok (.iconst 2, 1) := gdX5_sortOf_14.2.2.2.2.2.2.1
theorem dX5_sortOf_27 : decode cX5_sortOf 27 = .ok (.ireturn, 1) := gdX5_sortOf_14.2.2.2.2.2.2.2
set_option maxRecDepth 20000 in
theorem gdX5_sortOf_28 : decode cX5_sortOf 28 = .ok (.iload_n 0, 1) ∧ decode cX5_sortOf 29 = .ok (.bipush 59, 2) ∧ decode cX5_sortOf 31 = .ok (.if_icmp .ne 7, 3) ∧ decode cX5_sortOf 34 = .ok (.iconst 3, 1) ∧ decode cX5_sortOf 35 = .ok (.goto 4, 3) ∧ decode cX5_sortOf 38 = .ok (.iconst 4, 1) ∧ decode cX5_sortOf 39 = .ok (.ireturn, 1) := by decide +kernel
theorem dX5_sortOf_28 : decode cX5_sortOf 28 = .ok (.iload_n 0, 1) := gdX5_sortOf_28.1
theorem dX5_sortOf_29 : decode cX5_sortOf 29 = .ok (.bipush 59, 2) := gdX5_sortOf_28.2.1
theorem dX5_sortOf_31 : decode cX5_sortOf 31 = .ok (.if_icmp .ne 7, 3) := gdX5_sortOf_28.2.2.1
theorem dX5_sortOf_34 : decode cX5_sortOf 34 = .ok (.iconst 3, 1) := gdX5_sortOf_28.2.2.2.1
theorem dX5_sortOf_35 : decode cX5_sortOf 35 = .ok (.goto 4, 3) := gdX5_sortOf_28.2.2.2.2.1
theorem dX5_sortOf_38 : decode cX5_sortOf 38 = .ok (.iconst 4, 1) := gdX5_sortOf_28.2.2.2.2.2.1
theorem dX5_sortOf_39 : decode cX5_sortOf 39 = .ok (.ireturn, 1) := gdX5_sortOf_28.2.2.2.2.2.2
theorem jX5_append_X5 : ∀ w ∈ u_ws RX5 TX5 6, w ∈ wsX5_append := fun w h => List.mem_cons_of_mem _ (List.mem_append_right _ h)
theorem jX5_hasRoom_X5 : ∀ w ∈ u_ws RX5 TX5 6, w ∈ wsX5_hasRoom := fun w h => List.mem_cons_of_mem _ (List.mem_append_right _ h)
theorem jX5_length_X5 : ∀ w ∈ u_ws RX5 TX5 6, w ∈ wsX5_length := fun w h => List.mem_cons_of_mem _ (List.mem_append_right _ h)
set_option maxHeartbeats 4000000 in
set_option maxRecDepth 100000 in
theorem s_X5_hasRoom (l : Launch) (D : va_G) (cI cZ cC cS : ClassId) (sq : Nat → Nat) (sz : Nat) (tp : Nat) (n : Int32) (by_ : Nat) (tz : Int32) (ts : Int32) (ta : Int32) (tb : Int32) (tv : Int32) (hz : 0 ≤ tz.toInt ∧ tz.toInt ≤ 400) : mI l yX5_hasRoom wsX5_hasRoom 0 0 D (tyW cI cZ cC cS) sq [(tp, .inr (5, [.ref by_, .int tz, .int ts, .int ta, .int tb, .int tv]))] sz [.ref tp, .int n] (fun r w => ((n.toInt ≤ 400 - tz.toInt) ∧ r = 1 ∧ w = [(tp, .inr (5, [.ref by_, .int tz, .int ts, .int ta, .int tb, .int tv]))]) ∨ ((¬ n.toInt ≤ 400 - tz.toInt) ∧ r = 0 ∧ w = [(tp, .inr (5, [.ref by_, .int tz, .int ts, .int ta, .int tb, .int tv]))])) := by
  refine b_metI (cc := cX5_hasRoom) (maxL := 2) (ret := (some .boolean)) (by decide) rfl (Nat.le_of_ble_eq_true rfl) ?_
  intro p e s m below meth c ls A H X hsz hP hK hT hD hA hS hl
  have S : CallFix p m c cX5_hasRoom 2 s ([.ref tp, .int n] : List Value).toArray wsX5_hasRoom RX5 := X.1
  have hl : lv_has ls 2 [(0, .ref tp), (1, .int n)] := hl
  have iX5 := jX5_hasRoom_X5
  refine lv_iload_n S.1 S.2.1 dX5_hasRoom_0 rfl (lv_at hl 1 rfl) ?_
  refine lv_sipush (v := (400)) S.1 S.2.1 dX5_hasRoom_1 (by decide) ?_
  refine lv_aload_n S.1 S.2.1 dX5_hasRoom_4 rfl (lv_at hl 0 rfl) ?_
  refine b_get (v := .int tz) S iX5 hK hP 0 rfl rfl 1 (by decide) (by decide +kernel) rfl dX5_hasRoom_5 ?_
  refine lv_isub S.1 S.2.1 dX5_hasRoom_8 ?_
  refine lv_topi (fun x_1 ex_1 => ?_)
  have tx_1 : x_1.toInt = 400 - (tz.toInt) := subI (A := 400) (B := tz.toInt) ex_1 rfl rfl (by  omega) (by  omega)
  refine lv_icmp_gt (tgt := 16) S.1 S.2.1 dX5_hasRoom_9 (by decide) (fun c_2 => ?_) (fun c_2 => ?_)
  · rw [lt2 (a := x_1) (b := n) (A := x_1.toInt) (B := n.toInt) rfl rfl] at c_2
    refine lv_iconst (v := (0)) S.1 S.2.1 dX5_hasRoom_16 (by decide) ?_
    exact b_zret S.1 S.2.1 X.2.1 X.2.2.1 rfl hP hD hS (Or.inr (⟨(by first | with_reducible assumption | decide | (and_intros <;> first | with_reducible assumption | (intros; refine Int.le_antisymm ?_ ?_ <;> omega) | omega) | assumption | (rw [show Int32.toInt 0 = 0 from rfl]; omega)), rfl, rfl⟩)) dX5_hasRoom_17
  · rw [lt2 (a := x_1) (b := n) (A := x_1.toInt) (B := n.toInt) rfl rfl] at c_2
    refine lv_iconst (v := (1)) S.1 S.2.1 dX5_hasRoom_12 (by decide) ?_
    refine lv_goto (tgt := 17) S.1 S.2.1 dX5_hasRoom_13 (by decide) ?_
    exact b_zret S.1 S.2.1 X.2.1 X.2.2.1 rfl hP hD hS (Or.inl ⟨(by first | with_reducible assumption | decide | (and_intros <;> first | with_reducible assumption | (intros; refine Int.le_antisymm ?_ ?_ <;> omega) | omega) | assumption | (rw [show Int32.toInt 0 = 0 from rfl]; omega)), rfl, rfl⟩) dX5_hasRoom_17
set_option maxHeartbeats 4000000 in
set_option maxRecDepth 100000 in
theorem lp_append {p : Program} (l : Launch) {e : Env} {s : State} {m : MethodId} {below : List Frame} {meth : Method} {c : Code} (D : va_G) (cI cZ cC cS : ClassId) (sq : Nat → Nat) (tp : Nat) (by_ : Nat) (wv : Int64) (n : Int32) (tz : Int32) (ts : Int32) (ta : Int32) (tb : Int32) (tv : Int32) (f0 : Nat → Int32) (hrg_f0 : rng f0 400 (0) (255)) (hz : 0 ≤ tz.toInt ∧ 1 ≤ n.toInt ∧ n.toInt ≤ 8 ∧ tz.toInt + n.toInt ≤ 400) {A : Nat → Prop} (X : bX p s m meth c cX5_append 5 wsX5_append yX5_append none [.ref tp, .long wv, .int n]) (hK : kW D (tyW cI cZ cC cS) sq s) (hT : sT sq A s s.heap) (hA : ∀ q, s.heap.size ≤ q → A q) (K : ∀ (i : Int32) (q : Int32) (f1 : Nat → Int32), (rng f1 400 (0) (255)) → (-1 ≤ i.toInt ∧ i.toInt < n.toInt ∧ i.toInt < 8 ∧ 0 ≤ q.toInt ∧ q.toInt + i.toInt + 1 = tz.toInt + n.toInt) → (fdB wv f0 tz.toInt (tz.toInt + n.toInt) f1 q.toInt) → (i.toInt < 0) → ∀ (H : Heap) (locs : List Loc) (ls : Array Slot), va_P D vwCl [(tp, .inr (5, [.ref by_, .int q, .int ts, .int ta, .int tb, .int tv])), (by_, .inl (cI, 400, .inl f1))] H → va_D A [(tp, .inr (5, [.ref by_, .int q, .int ts, .int ta, .int tb, .int tv])), (by_, .inl (cI, 400, .inl f1))] → va_S A s.heap H locs → lv_has ls 5 [(4, .int i), (0, .ref tp), (1, .long wv), (3, .int n)] → W p l e (rmW 0 0 0 0) s m ([.ref tp, .long wv, .int n] : List Value).toArray below meth c H locs 0 0 (MQ below (va_Qv (fun w => (∃ (q2 : Int32), ∃ (f2 : Nat → Int32), (rng f2 400 (0) (255)) ∧ (q2.toInt = tz.toInt + n.toInt) ∧ (fdB wv f0 tz.toInt (tz.toInt + n.toInt) f2 q2.toInt) ∧ w = [(tp, .inr (5, [.ref by_, .int q2, .int ts, .int ta, .int tb, .int tv])), (by_, .inl (cI, 400, .inl f2))])) (wD D A) A) ([.ref tp, .long wv, .int n] : List Value).toArray s 0 0 A) (F0 m 47 ls [])) : ∀ (mN : Nat) (i : Int32) (q : Int32) (f1 : Nat → Int32), (rng f1 400 (0) (255)) → (-1 ≤ i.toInt ∧ i.toInt < n.toInt ∧ i.toInt < 8 ∧ 0 ≤ q.toInt ∧ q.toInt + i.toInt + 1 = tz.toInt + n.toInt) → (fdB wv f0 tz.toInt (tz.toInt + n.toInt) f1 q.toInt) → ((i.toInt + 1).toNat < mN) → ∀ (H : Heap) (locs : List Loc) (ls : Array Slot), va_P D vwCl [(tp, .inr (5, [.ref by_, .int q, .int ts, .int ta, .int tb, .int tv])), (by_, .inl (cI, 400, .inl f1))] H → va_D A [(tp, .inr (5, [.ref by_, .int q, .int ts, .int ta, .int tb, .int tv])), (by_, .inl (cI, 400, .inl f1))] → va_S A s.heap H locs → lv_has ls 5 [(4, .int i), (0, .ref tp), (1, .long wv), (3, .int n)] → W p l e (rmW 0 0 0 0) s m ([.ref tp, .long wv, .int n] : List Value).toArray below meth c H locs 0 0 (MQ below (va_Qv (fun w => (∃ (q2 : Int32), ∃ (f2 : Nat → Int32), (rng f2 400 (0) (255)) ∧ (q2.toInt = tz.toInt + n.toInt) ∧ (fdB wv f0 tz.toInt (tz.toInt + n.toInt) f2 q2.toInt) ∧ w = [(tp, .inr (5, [.ref by_, .int q2, .int ts, .int ta, .int tb, .int tv])), (by_, .inl (cI, 400, .inl f2))])) (wD D A) A) ([.ref tp, .long wv, .int n] : List Value).toArray s 0 0 A) (F0 m 5 ls []) := by
  have S : CallFix p m c cX5_append 5 s ([.ref tp, .long wv, .int n] : List Value).toArray wsX5_append RX5 := X.1
  have iX5 := jX5_append_X5
  intro mN
  induction mN with
  | zero => intro i q f1 hrg_f1 hi hby hm; exact absurd hm (Nat.not_lt_zero _)
  | succ mN ih =>
    intro i q f1 hrg_f1 hi hby hm H locs ls hP hD hS hl
    refine lv_iload S.1 S.2.1 dX5_append_5 (lv_at hl 0 rfl) ?_
    refine lv_if_lt (tgt := 47) S.1 S.2.1 dX5_append_7 (by decide) (fun c_101 => ?_) (fun c_101 => ?_)
    · rw [lt2 (a := i) (b := 0) (A := i.toInt) (B := 0) rfl rfl] at c_101
      exact K i q f1 (by first | with_reducible assumption | assumption | omega | decide | (rw [show Int32.toInt 0 = 0 from rfl]; omega)) (by first | with_reducible assumption | decide | (and_intros <;> first | with_reducible assumption | (intros; refine Int.le_antisymm ?_ ?_ <;> omega) | omega) | assumption | (rw [show Int32.toInt 0 = 0 from rfl]; omega)) (by first | assumption | exact fdB_st hby (by first | with_reducible assumption | assumption) (by first | with_reducible assumption | assumption) (by first | (and_intros <;> first | with_reducible assumption | (refine Int.le_antisymm ?_ ?_ <;> omega) | omega) | omega) (by first | (and_intros <;> first | with_reducible assumption | (refine Int.le_antisymm ?_ ?_ <;> omega) | omega) | omega) (by first | (and_intros <;> first | with_reducible assumption | (refine Int.le_antisymm ?_ ?_ <;> omega) | omega) | omega) (by first | (and_intros <;> first | with_reducible assumption | (refine Int.le_antisymm ?_ ?_ <;> omega) | omega) | omega) (by first | (and_intros <;> first | with_reducible assumption | (refine Int.le_antisymm ?_ ?_ <;> omega) | omega) | omega)) (by first | with_reducible assumption | decide | (and_intros <;> first | with_reducible assumption | (intros; refine Int.le_antisymm ?_ ?_ <;> omega) | omega) | assumption | (rw [show Int32.toInt 0 = 0 from rfl]; omega)) H _ ls hP hD hS (lv_sub hl [0, 1, 2, 3] rfl)
    · rw [lt2 (a := i) (b := 0) (A := i.toInt) (B := 0) rfl rfl] at c_101
      refine lv_aload_n S.1 S.2.1 dX5_append_10 rfl (lv_at hl 1 rfl) ?_
      refine b_get (v := .ref by_) S iX5 hK hP 0 rfl rfl 0 (by decide) (by decide +kernel) rfl dX5_append_11 ?_
      refine lv_aload_n S.1 S.2.1 dX5_append_14 rfl (lv_at hl 1 rfl) ?_
      refine b_get (v := .int q) S iX5 hK hP 0 rfl rfl 1 (by decide) (by decide +kernel) rfl dX5_append_15 ?_
      refine lv_lload_n S.1 S.2.1 dX5_append_18 rfl (lv_at hl 2 rfl) ?_
      refine lv_bipush (v := (8)) S.1 S.2.1 dX5_append_19 (by decide) ?_
      refine lv_iload S.1 S.2.1 dX5_append_21 (lv_at hl 0 rfl) ?_
      refine lv_imul S.1 S.2.1 dX5_append_23 ?_
      refine lv_topi (fun x_102 ex_102 => ?_)
      have tx_102 : x_102.toInt = 8 * i.toInt := mulI (A := 8) (B := i.toInt) ex_102 rfl rfl (by  omega) (by  omega)
      refine lv_lushr S.1 S.2.1 dX5_append_24 rfl ?_
      refine lv_topl (fun z_103 ez_103 => ?_)
      refine lv_l2i S.1 S.2.1 dX5_append_25 rfl ?_
      refine lv_topi (fun x_104 ex_104 => ?_)
      refine lv_sipush (v := (255)) S.1 S.2.1 dX5_append_26 (by decide) ?_
      refine lv_iand S.1 S.2.1 dX5_append_29 ?_
      refine lv_topi (fun x_105 ex_105 => ?_)
      have tx_105 := byC (i := i) (by first | (and_intros <;> first | with_reducible assumption | (refine Int.le_antisymm ?_ ?_ <;> omega) | omega) | omega) ex_105 (by first | with_reducible assumption | assumption) (by first | with_reducible assumption | assumption) (by first | (and_intros <;> first | with_reducible assumption | (refine Int.le_antisymm ?_ ?_ <;> omega) | omega) | omega)
      refine va_iast S.1 S.2.1 hK.1 hP hD hS 1 0 rfl rfl (in_of (n := 400) (by  omega) (by  omega)) dX5_append_30 (fun H locs hP hD hS => ?_)
      obtain ⟨f_106, hf_106, rf_106⟩ : ∃ g, (upd f1 q.toNatClampNeg (x_105)) = g ∧ rng g 400 (0) (255) := ⟨_, rfl, rng_upd (by first | with_reducible assumption | assumption) (show (0 : Int) ≤ (x_105 : Int32).toInt ∧ (x_105 : Int32).toInt ≤ 255 from by omega)⟩
      have hP : va_P D vwCl [(tp, .inr (5, [.ref by_, .int q, .int ts, .int ta, .int tb, .int tv])), (by_, .inl (cI, 400, .inl (upd f1 q.toNatClampNeg (x_105))))] H := hP
      have hD : va_D A [(tp, .inr (5, [.ref by_, .int q, .int ts, .int ta, .int tb, .int tv])), (by_, .inl (cI, 400, .inl (upd f1 q.toNatClampNeg (x_105))))] := hD
      rw [hf_106] at hP hD
      refine lv_aload_n S.1 S.2.1 dX5_append_31 rfl (lv_at hl 1 rfl) ?_
      refine lv_dup S.1 S.2.1 dX5_append_32 rfl ?_
      refine b_get (v := .int q) S iX5 hK hP 0 rfl rfl 1 (by decide) (by decide +kernel) rfl dX5_append_33 ?_
      refine lv_iconst (v := (1)) S.1 S.2.1 dX5_append_36 (by decide) ?_
      refine lv_iadd S.1 S.2.1 dX5_append_37 ?_
      refine lv_topi (fun x_107 ex_107 => ?_)
      have tx_107 : x_107.toInt = q.toInt + (1) := addI (A := q.toInt) (B := 1) ex_107 rfl rfl (by  omega) (by  omega)
      refine b_put (v := .int x_107) S iX5 tyX5 tyX5_ok nmX5 hK hP hD hS 0 rfl rfl 1 (by decide) (by decide +kernel) rfl rfl rfl (Nat.le_of_ble_eq_true rfl) dX5_append_38 (fun H locs hP hD hS => ?_)
      have hP : va_P D vwCl [(tp, .inr (5, [.ref by_, .int x_107, .int ts, .int ta, .int tb, .int tv])), (by_, .inl (cI, 400, .inl f_106))] H := hP
      have hD : va_D A [(tp, .inr (5, [.ref by_, .int x_107, .int ts, .int ta, .int tb, .int tv])), (by_, .inl (cI, 400, .inl f_106))] := hD
      obtain ⟨x_108, ex_108⟩ : ∃ y : Int32, y = i + Int32.ofInt (-1) := ⟨_, rfl⟩
      refine lv_iinc (v := x_108) (lv' := [(4, .int x_108), (0, .ref tp), (1, .long wv), (3, .int n)]) S.1 S.2.1 dX5_append_41 hl (k := 0) rfl ex_108.symm (by decide) rfl (fun ls hl => ?_)
      have tx_108 : x_108.toInt = i.toInt + (-1) := addI (A := i.toInt) (B := -1) ex_108 rfl rfl (by  omega) (by  omega)
      refine lv_goto (tgt := 5) S.1 S.2.1 dX5_append_44 (by decide) ?_
      exact ih x_108 x_107 f_106 (by first | with_reducible assumption | assumption | omega | decide | (rw [show Int32.toInt 0 = 0 from rfl]; omega)) (by first | with_reducible assumption | decide | (and_intros <;> first | with_reducible assumption | (intros; refine Int.le_antisymm ?_ ?_ <;> omega) | omega) | assumption | (rw [show Int32.toInt 0 = 0 from rfl]; omega)) (by first | assumption | exact fdB_st hby (by first | with_reducible assumption | assumption) (by first | with_reducible assumption | assumption) (by first | (and_intros <;> first | with_reducible assumption | (refine Int.le_antisymm ?_ ?_ <;> omega) | omega) | omega) (by first | (and_intros <;> first | with_reducible assumption | (refine Int.le_antisymm ?_ ?_ <;> omega) | omega) | omega) (by first | (and_intros <;> first | with_reducible assumption | (refine Int.le_antisymm ?_ ?_ <;> omega) | omega) | omega) (by first | (and_intros <;> first | with_reducible assumption | (refine Int.le_antisymm ?_ ?_ <;> omega) | omega) | omega) (by first | (and_intros <;> first | with_reducible assumption | (refine Int.le_antisymm ?_ ?_ <;> omega) | omega) | omega)) (by first | (and_intros <;> first | with_reducible assumption | (refine Int.le_antisymm ?_ ?_ <;> omega) | omega) | omega) H _ ls hP hD hS (lv_sub hl [0, 1, 2, 3] rfl)
set_option maxHeartbeats 4000000 in
set_option maxRecDepth 100000 in
theorem s_X5_append (l : Launch) (D : va_G) (cI cZ cC cS : ClassId) (sq : Nat → Nat) (sz : Nat) (tp : Nat) (by_ : Nat) (wv : Int64) (n : Int32) (tz : Int32) (ts : Int32) (ta : Int32) (tb : Int32) (tv : Int32) (f0 : Nat → Int32) (hrg_f0 : rng f0 400 (0) (255)) (hz : 0 ≤ tz.toInt ∧ 1 ≤ n.toInt ∧ n.toInt ≤ 8 ∧ tz.toInt + n.toInt ≤ 400) : mV l yX5_append wsX5_append 0 0 0 0 D (tyW cI cZ cC cS) sq [(tp, .inr (5, [.ref by_, .int tz, .int ts, .int ta, .int tb, .int tv])), (by_, .inl (cI, 400, .inl f0))] sz [.ref tp, .long wv, .int n] (fun w => (∃ (q2 : Int32), ∃ (f2 : Nat → Int32), (rng f2 400 (0) (255)) ∧ (q2.toInt = tz.toInt + n.toInt) ∧ (fdB wv f0 tz.toInt (tz.toInt + n.toInt) f2 q2.toInt) ∧ w = [(tp, .inr (5, [.ref by_, .int q2, .int ts, .int ta, .int tb, .int tv])), (by_, .inl (cI, 400, .inl f2))])) := by
  refine b_metV (cc := cX5_append) (maxL := 5) (ret := none) (by decide) rfl (Nat.le_of_ble_eq_true rfl) ?_
  intro p e s m below meth c ls A H X hsz hP hK hT hD hA hS hl
  have S : CallFix p m c cX5_append 5 s ([.ref tp, .long wv, .int n] : List Value).toArray wsX5_append RX5 := X.1
  have hl : lv_has ls 5 [(0, .ref tp), (1, .long wv), (3, .int n)] := hl
  refine lv_iload_n S.1 S.2.1 dX5_append_0 rfl (lv_at hl 2 rfl) ?_
  refine lv_iconst (v := (1)) S.1 S.2.1 dX5_append_1 (by decide) ?_
  refine lv_isub S.1 S.2.1 dX5_append_2 ?_
  refine lv_topi (fun x_1 ex_1 => ?_)
  have tx_1 : x_1.toInt = n.toInt - (1) := subI (A := n.toInt) (B := 1) ex_1 rfl rfl (by  omega) (by  omega)
  refine lv_istore (lv' := [(4, .int x_1), (0, .ref tp), (1, .long wv), (3, .int n)]) S.1 S.2.1 dX5_append_3 hl (by decide) rfl (fun ls hl => ?_)
  refine lp_append l D cI cZ cC cS sq tp by_ wv n tz ts ta tb tv f0 hrg_f0 hz X hK hT hA (fun i_2 q_3 f1_4 hi_5 hi_6 hi_7 hi_8 H locs ls hP hD hS hl => ?_) _ x_1 tz f0 (by first | with_reducible assumption | assumption | omega | decide | (rw [show Int32.toInt 0 = 0 from rfl]; omega)) (by first | with_reducible assumption | decide | (and_intros <;> first | with_reducible assumption | (intros; refine Int.le_antisymm ?_ ?_ <;> omega) | omega) | assumption | (rw [show Int32.toInt 0 = 0 from rfl]; omega)) (fdB_0 _ _ _ _) (Nat.lt_succ_self _) H _ ls hP hD hS (lv_sub hl [0, 1, 2, 3] rfl)
  exact b_vret S.1 S.2.1 X.2.1 X.2.2.1 hP hD hS ⟨q_3, f1_4, (by first | with_reducible assumption | assumption | omega | decide | (rw [show Int32.toInt 0 = 0 from rfl]; omega)), (by first | with_reducible assumption | decide | (and_intros <;> first | with_reducible assumption | (intros; refine Int.le_antisymm ?_ ?_ <;> omega) | omega) | assumption | (rw [show Int32.toInt 0 = 0 from rfl]; omega)), (by first | with_reducible assumption | assumption | omega | decide | (rw [show Int32.toInt 0 = 0 from rfl]; omega)), rfl⟩ dX5_append_47
set_option maxHeartbeats 4000000 in
set_option maxRecDepth 100000 in
theorem s_X5_length (l : Launch) (D : va_G) (cI cZ cC cS : ClassId) (sq : Nat → Nat) (sz : Nat) (tp : Nat) (by_ : Nat) (tz : Int32) (ts : Int32) (ta : Int32) (tb : Int32) (tv : Int32) (hz : 0 ≤ ta.toInt ∧ ta.toInt ≤ 400 ∧ 0 ≤ tb.toInt ∧ tb.toInt ≤ 400) : mI l yX5_length wsX5_length 0 0 D (tyW cI cZ cC cS) sq [(tp, .inr (5, [.ref by_, .int tz, .int ts, .int ta, .int tb, .int tv]))] sz [.ref tp] (fun r w => ((r.toInt = tb.toInt - ta.toInt) ∧ w = [(tp, .inr (5, [.ref by_, .int tz, .int ts, .int ta, .int tb, .int tv]))])) := by
  refine b_metI (cc := cX5_length) (maxL := 1) (ret := (some .int)) (by decide) rfl (Nat.le_of_ble_eq_true rfl) ?_
  intro p e s m below meth c ls A H X hsz hP hK hT hD hA hS hl
  have S : CallFix p m c cX5_length 1 s ([.ref tp] : List Value).toArray wsX5_length RX5 := X.1
  have hl : lv_has ls 1 [(0, .ref tp)] := hl
  have iX5 := jX5_length_X5
  refine lv_aload_n S.1 S.2.1 dX5_length_0 rfl (lv_at hl 0 rfl) ?_
  refine b_get (v := .int tb) S iX5 hK hP 0 rfl rfl 4 (by decide) (by decide +kernel) rfl dX5_length_1 ?_
  refine lv_aload_n S.1 S.2.1 dX5_length_4 rfl (lv_at hl 0 rfl) ?_
  refine b_get (v := .int ta) S iX5 hK hP 0 rfl rfl 3 (by decide) (by decide +kernel) rfl dX5_length_5 ?_
  refine lv_isub S.1 S.2.1 dX5_length_8 ?_
  refine lv_topi (fun x_1 ex_1 => ?_)
  have tx_1 : x_1.toInt = tb.toInt - (ta.toInt) := subI (A := tb.toInt) (B := ta.toInt) ex_1 rfl rfl (by  omega) (by  omega)
  exact b_iret S.1 S.2.1 X.2.1 X.2.2.1 hP hD hS ⟨(by first | with_reducible assumption | decide | (and_intros <;> first | with_reducible assumption | (intros; refine Int.le_antisymm ?_ ?_ <;> omega) | omega) | assumption | (rw [show Int32.toInt 0 = 0 from rfl]; omega)), rfl⟩ dX5_length_9
set_option maxHeartbeats 4000000 in
set_option maxRecDepth 100000 in
theorem s_X5_sortOf (l : Launch) (D : va_G) (cI cZ cC cS : ClassId) (sq : Nat → Nat) (sz : Nat) (b_ : Int32) : mI l yX5_sortOf wsX5_sortOf 0 0 D (tyW cI cZ cC cS) sq [] sz [.int b_] (fun r w => ((srt b_.toInt = 1) ∧ r = 1 ∧ w = []) ∨ ((48 ≤ b_.toInt ∧ b_.toInt ≤ 57) ∧ (srt b_.toInt = 2) ∧ r = 2 ∧ w = []) ∨ ((srt b_.toInt = 3) ∧ r = 3 ∧ w = []) ∨ ((srt b_.toInt = 4) ∧ r = 4 ∧ w = [])) := by
  refine b_metI (cc := cX5_sortOf) (maxL := 1) (ret := (some .int)) (by decide) rfl (Nat.le_of_ble_eq_true rfl) ?_
  intro p e s m below meth c ls A H X hsz hP hK hT hD hA hS hl
  have S : CallFix p m c cX5_sortOf 1 s ([.int b_] : List Value).toArray wsX5_sortOf RX5 := X.1
  have hl : lv_has ls 1 [(0, .int b_)] := hl
  refine lv_iload_n S.1 S.2.1 dX5_sortOf_0 rfl (lv_at hl 0 rfl) ?_
  refine lv_bipush (v := (97)) S.1 S.2.1 dX5_sortOf_1 (by decide) ?_
  refine lv_icmp_lt (tgt := 14) S.1 S.2.1 dX5_sortOf_3 (by decide) (fun c_1 => ?_) (fun c_1 => ?_)
  · rw [lt2 (a := b_) (b := 97) (A := b_.toInt) (B := 97) rfl rfl] at c_1
    refine lv_iload_n S.1 S.2.1 dX5_sortOf_14 rfl (lv_at hl 0 rfl) ?_
    refine lv_bipush (v := (48)) S.1 S.2.1 dX5_sortOf_15 (by decide) ?_
    refine lv_icmp_lt (tgt := 28) S.1 S.2.1 dX5_sortOf_17 (by decide) (fun c_2 => ?_) (fun c_2 => ?_)
    · rw [lt2 (a := b_) (b := 48) (A := b_.toInt) (B := 48) rfl rfl] at c_2
      refine lv_iload_n S.1 S.2.1 dX5_sortOf_28 rfl (lv_at hl 0 rfl) ?_
      refine lv_bipush (v := (59)) S.1 S.2.1 dX5_sortOf_29 (by decide) ?_
      refine lv_icmp_ne (tgt := 38) S.1 S.2.1 dX5_sortOf_31 (by decide) (fun c_3 => ?_) (fun c_3 => ?_)
      · rw [eq2 (a := b_) (b := 59) (A := b_.toInt) (B := 59) rfl rfl] at c_3
        refine lv_iconst (v := (4)) S.1 S.2.1 dX5_sortOf_38 (by decide) ?_
        exact b_iret S.1 S.2.1 X.2.1 X.2.2.1 hP hD hS (Or.inr (Or.inr (Or.inr (⟨(srt_4 (by first | (and_intros <;> first | with_reducible assumption | (refine Int.le_antisymm ?_ ?_ <;> omega) | omega) | omega) (by first | (and_intros <;> first | with_reducible assumption | (refine Int.le_antisymm ?_ ?_ <;> omega) | omega) | omega) (by first | (and_intros <;> first | with_reducible assumption | (refine Int.le_antisymm ?_ ?_ <;> omega) | omega) | omega)), rfl, rfl⟩)))) dX5_sortOf_39
      · rw [eq2 (a := b_) (b := 59) (A := b_.toInt) (B := 59) rfl rfl] at c_3
        refine lv_iconst (v := (3)) S.1 S.2.1 dX5_sortOf_34 (by decide) ?_
        refine lv_goto (tgt := 39) S.1 S.2.1 dX5_sortOf_35 (by decide) ?_
        exact b_iret S.1 S.2.1 X.2.1 X.2.2.1 hP hD hS (Or.inr (Or.inr (Or.inl ⟨(srt_3 (by first | (and_intros <;> first | with_reducible assumption | (refine Int.le_antisymm ?_ ?_ <;> omega) | omega) | omega)), rfl, rfl⟩))) dX5_sortOf_39
    · rw [lt2 (a := b_) (b := 48) (A := b_.toInt) (B := 48) rfl rfl] at c_2
      refine lv_iload_n S.1 S.2.1 dX5_sortOf_20 rfl (lv_at hl 0 rfl) ?_
      refine lv_bipush (v := (57)) S.1 S.2.1 dX5_sortOf_21 (by decide) ?_
      refine lv_icmp_gt (tgt := 28) S.1 S.2.1 dX5_sortOf_23 (by decide) (fun c_4 => ?_) (fun c_4 => ?_)
      · rw [lt2 (a := 57) (b := b_) (A := 57) (B := b_.toInt) rfl rfl] at c_4
        refine lv_iload_n S.1 S.2.1 dX5_sortOf_28 rfl (lv_at hl 0 rfl) ?_
        refine lv_bipush (v := (59)) S.1 S.2.1 dX5_sortOf_29 (by decide) ?_
        refine lv_icmp_ne (tgt := 38) S.1 S.2.1 dX5_sortOf_31 (by decide) (fun c_5 => ?_) (fun c_5 => ?_)
        · rw [eq2 (a := b_) (b := 59) (A := b_.toInt) (B := 59) rfl rfl] at c_5
          refine lv_iconst (v := (4)) S.1 S.2.1 dX5_sortOf_38 (by decide) ?_
          exact b_iret S.1 S.2.1 X.2.1 X.2.2.1 hP hD hS (Or.inr (Or.inr (Or.inr (⟨(srt_4 (by first | (and_intros <;> first | with_reducible assumption | (refine Int.le_antisymm ?_ ?_ <;> omega) | omega) | omega) (by first | (and_intros <;> first | with_reducible assumption | (refine Int.le_antisymm ?_ ?_ <;> omega) | omega) | omega) (by first | (and_intros <;> first | with_reducible assumption | (refine Int.le_antisymm ?_ ?_ <;> omega) | omega) | omega)), rfl, rfl⟩)))) dX5_sortOf_39
        · rw [eq2 (a := b_) (b := 59) (A := b_.toInt) (B := 59) rfl rfl] at c_5
          refine lv_iconst (v := (3)) S.1 S.2.1 dX5_sortOf_34 (by decide) ?_
          refine lv_goto (tgt := 39) S.1 S.2.1 dX5_sortOf_35 (by decide) ?_
          exact b_iret S.1 S.2.1 X.2.1 X.2.2.1 hP hD hS (Or.inr (Or.inr (Or.inl ⟨(srt_3 (by first | (and_intros <;> first | with_reducible assumption | (refine Int.le_antisymm ?_ ?_ <;> omega) | omega) | omega)), rfl, rfl⟩))) dX5_sortOf_39
      · rw [lt2 (a := 57) (b := b_) (A := 57) (B := b_.toInt) rfl rfl] at c_4
        refine lv_iconst (v := (2)) S.1 S.2.1 dX5_sortOf_26 (by decide) ?_
        exact b_iret S.1 S.2.1 X.2.1 X.2.2.1 hP hD hS (Or.inr (Or.inl ⟨(by first | with_reducible assumption | decide | (and_intros <;> first | with_reducible assumption | (intros; refine Int.le_antisymm ?_ ?_ <;> omega) | omega) | assumption | (rw [show Int32.toInt 0 = 0 from rfl]; omega)), (srt_2 (by first | (and_intros <;> first | with_reducible assumption | (refine Int.le_antisymm ?_ ?_ <;> omega) | omega) | omega)), rfl, rfl⟩)) dX5_sortOf_27
  · rw [lt2 (a := b_) (b := 97) (A := b_.toInt) (B := 97) rfl rfl] at c_1
    refine lv_iload_n S.1 S.2.1 dX5_sortOf_6 rfl (lv_at hl 0 rfl) ?_
    refine lv_bipush (v := (122)) S.1 S.2.1 dX5_sortOf_7 (by decide) ?_
    refine lv_icmp_gt (tgt := 14) S.1 S.2.1 dX5_sortOf_9 (by decide) (fun c_6 => ?_) (fun c_6 => ?_)
    · rw [lt2 (a := 122) (b := b_) (A := 122) (B := b_.toInt) rfl rfl] at c_6
      refine lv_iload_n S.1 S.2.1 dX5_sortOf_14 rfl (lv_at hl 0 rfl) ?_
      refine lv_bipush (v := (48)) S.1 S.2.1 dX5_sortOf_15 (by decide) ?_
      refine lv_icmp_lt (tgt := 28) S.1 S.2.1 dX5_sortOf_17 (by decide) (fun c_7 => ?_) (fun c_7 => ?_)
      · rw [lt2 (a := b_) (b := 48) (A := b_.toInt) (B := 48) rfl rfl] at c_7
        refine lv_iload_n S.1 S.2.1 dX5_sortOf_28 rfl (lv_at hl 0 rfl) ?_
        refine lv_bipush (v := (59)) S.1 S.2.1 dX5_sortOf_29 (by decide) ?_
        refine lv_icmp_ne (tgt := 38) S.1 S.2.1 dX5_sortOf_31 (by decide) (fun c_8 => ?_) (fun c_8 => ?_)
        · rw [eq2 (a := b_) (b := 59) (A := b_.toInt) (B := 59) rfl rfl] at c_8
          refine lv_iconst (v := (4)) S.1 S.2.1 dX5_sortOf_38 (by decide) ?_
          exact b_iret S.1 S.2.1 X.2.1 X.2.2.1 hP hD hS (Or.inr (Or.inr (Or.inr (⟨(srt_4 (by first | (and_intros <;> first | with_reducible assumption | (refine Int.le_antisymm ?_ ?_ <;> omega) | omega) | omega) (by first | (and_intros <;> first | with_reducible assumption | (refine Int.le_antisymm ?_ ?_ <;> omega) | omega) | omega) (by first | (and_intros <;> first | with_reducible assumption | (refine Int.le_antisymm ?_ ?_ <;> omega) | omega) | omega)), rfl, rfl⟩)))) dX5_sortOf_39
        · rw [eq2 (a := b_) (b := 59) (A := b_.toInt) (B := 59) rfl rfl] at c_8
          refine lv_iconst (v := (3)) S.1 S.2.1 dX5_sortOf_34 (by decide) ?_
          refine lv_goto (tgt := 39) S.1 S.2.1 dX5_sortOf_35 (by decide) ?_
          exact b_iret S.1 S.2.1 X.2.1 X.2.2.1 hP hD hS (Or.inr (Or.inr (Or.inl ⟨(srt_3 (by first | (and_intros <;> first | with_reducible assumption | (refine Int.le_antisymm ?_ ?_ <;> omega) | omega) | omega)), rfl, rfl⟩))) dX5_sortOf_39
      · rw [lt2 (a := b_) (b := 48) (A := b_.toInt) (B := 48) rfl rfl] at c_7
        refine lv_iload_n S.1 S.2.1 dX5_sortOf_20 rfl (lv_at hl 0 rfl) ?_
        refine lv_bipush (v := (57)) S.1 S.2.1 dX5_sortOf_21 (by decide) ?_
        refine lv_icmp_gt (tgt := 28) S.1 S.2.1 dX5_sortOf_23 (by decide) (fun c_9 => ?_) (fun c_9 => ?_)
        · rw [lt2 (a := 57) (b := b_) (A := 57) (B := b_.toInt) rfl rfl] at c_9
          refine lv_iload_n S.1 S.2.1 dX5_sortOf_28 rfl (lv_at hl 0 rfl) ?_
          refine lv_bipush (v := (59)) S.1 S.2.1 dX5_sortOf_29 (by decide) ?_
          refine lv_icmp_ne (tgt := 38) S.1 S.2.1 dX5_sortOf_31 (by decide) (fun c_10 => ?_) (fun c_10 => ?_)
          · rw [eq2 (a := b_) (b := 59) (A := b_.toInt) (B := 59) rfl rfl] at c_10
            refine lv_iconst (v := (4)) S.1 S.2.1 dX5_sortOf_38 (by decide) ?_
            exact b_iret S.1 S.2.1 X.2.1 X.2.2.1 hP hD hS (Or.inr (Or.inr (Or.inr (⟨(srt_4 (by first | (and_intros <;> first | with_reducible assumption | (refine Int.le_antisymm ?_ ?_ <;> omega) | omega) | omega) (by first | (and_intros <;> first | with_reducible assumption | (refine Int.le_antisymm ?_ ?_ <;> omega) | omega) | omega) (by first | (and_intros <;> first | with_reducible assumption | (refine Int.le_antisymm ?_ ?_ <;> omega) | omega) | omega)), rfl, rfl⟩)))) dX5_sortOf_39
          · rw [eq2 (a := b_) (b := 59) (A := b_.toInt) (B := 59) rfl rfl] at c_10
            refine lv_iconst (v := (3)) S.1 S.2.1 dX5_sortOf_34 (by decide) ?_
            refine lv_goto (tgt := 39) S.1 S.2.1 dX5_sortOf_35 (by decide) ?_
            exact b_iret S.1 S.2.1 X.2.1 X.2.2.1 hP hD hS (Or.inr (Or.inr (Or.inl ⟨(srt_3 (by first | (and_intros <;> first | with_reducible assumption | (refine Int.le_antisymm ?_ ?_ <;> omega) | omega) | omega)), rfl, rfl⟩))) dX5_sortOf_39
        · rw [lt2 (a := 57) (b := b_) (A := 57) (B := b_.toInt) rfl rfl] at c_9
          refine lv_iconst (v := (2)) S.1 S.2.1 dX5_sortOf_26 (by decide) ?_
          exact b_iret S.1 S.2.1 X.2.1 X.2.2.1 hP hD hS (Or.inr (Or.inl ⟨(by first | with_reducible assumption | decide | (and_intros <;> first | with_reducible assumption | (intros; refine Int.le_antisymm ?_ ?_ <;> omega) | omega) | assumption | (rw [show Int32.toInt 0 = 0 from rfl]; omega)), (srt_2 (by first | (and_intros <;> first | with_reducible assumption | (refine Int.le_antisymm ?_ ?_ <;> omega) | omega) | omega)), rfl, rfl⟩)) dX5_sortOf_27
    · rw [lt2 (a := 122) (b := b_) (A := 122) (B := b_.toInt) rfl rfl] at c_6
      refine lv_iconst (v := (1)) S.1 S.2.1 dX5_sortOf_12 (by decide) ?_
      exact b_iret S.1 S.2.1 X.2.1 X.2.2.1 hP hD hS (Or.inl ⟨(srt_1 (by first | (and_intros <;> first | with_reducible assumption | (refine Int.le_antisymm ?_ ?_ <;> omega) | omega) | omega)), rfl, rfl⟩) dX5_sortOf_13
