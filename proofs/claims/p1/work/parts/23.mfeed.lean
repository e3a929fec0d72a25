theorem dX9_feed_20 : decode cX9_feed 20 = .ok (.aload_n 0, 1) := by decide +kernel
theorem dX9_feed_21 : decode cX9_feed 21 = .ok (.getfield 80, 3) := by decide +kernel
theorem dX9_feed_24 : decode cX9_feed 24 = .ok (.iload_n 3, 1) := by decide +kernel
theorem dX9_feed_25 : decode cX9_feed 25 = .ok (.iadd, 1) := by decide +kernel
theorem dX9_feed_26 : decode cX9_feed 26 = .ok (.sipush 400, 3) := by decide +kernel
theorem dX9_feed_29 : decode cX9_feed 29 = .ok (.if_icmp .le 6, 3) := by decide +kernel
theorem dX9_feed_35 : decode cX9_feed 35 = .ok (.iload_n 3, 1) := by decide +kernel
theorem dX9_feed_36 : decode cX9_feed 36 = .ok (.iconst 1, 1) := by decide +kernel
theorem dX9_feed_37 : decode cX9_feed 37 = .ok (.isub, 1) := by decide +kernel
theorem dX9_feed_38 : decode cX9_feed 38 = .ok (.istore 4, 2) := by decide +kernel
theorem dX9_feed_40 : decode cX9_feed 40 = .ok (.iload 4, 2) := by decide +kernel
theorem dX9_feed_42 : decode cX9_feed 42 = .ok (.ifCond .lt 40, 3) := by decide +kernel
theorem dX9_feed_45 : decode cX9_feed 45 = .ok (.aload_n 0, 1) := by decide +kernel
theorem dX9_feed_46 : decode cX9_feed 46 = .ok (.getfield 25, 3) := by decide +kernel
theorem dX9_feed_49 : decode cX9_feed 49 = .ok (.aload_n 0, 1) := by decide +kernel
theorem dX9_feed_50 : decode cX9_feed 50 = .ok (.getfield 80, 3) := by decide +kernel
theorem dX9_feed_53 : decode cX9_feed 53 = .ok (.lload_n 1, 1) := by decide +kernel
theorem dX9_feed_54 : decode cX9_feed 54 = .ok (.bipush 8, 2) := by decide +kernel
theorem dX9_feed_56 : decode cX9_feed 56 = .ok (.iload 4, 2) := by decide +kernel
theorem dX9_feed_58 : decode cX9_feed 58 = .ok (.imul, 1) := by decide +kernel
theorem dX9_feed_59 : decode cX9_feed 59 = .ok (.lshr, 1) := by decide +kernel
theorem dX9_feed_60 : decode cX9_feed 60 = .ok (.ldc2_w 84, 3) := by decide +kernel
theorem dX9_feed_63 : decode cX9_feed 63 = .ok (.land, 1) := by decide +kernel
theorem dX9_feed_64 : decode cX9_feed 64 = .ok (.l2i, 1) := by decide +kernel
theorem dX9_feed_65 : decode cX9_feed 65 = .ok (.iastore, 1) := by decide +kernel
theorem dX9_feed_66 : decode cX9_feed 66 = .ok (.aload_n 0, 1) := by decide +kernel
theorem dX9_feed_67 : decode cX9_feed 67 = .ok (.dup, 1) := by decide +kernel
theorem dX9_feed_68 : decode cX9_feed 68 = .ok (.getfield 80, 3) := by decide +kernel
theorem dX9_feed_71 : decode cX9_feed 71 = .ok (.iconst 1, 1) := by decide +kernel
theorem dX9_feed_72 : decode cX9_feed 72 = .ok (.iadd, 1) := by decide +kernel
theorem dX9_feed_73 : decode cX9_feed 73 = .ok (.putfield 80, 3) := by decide +kernel
theorem dX9_feed_76 : decode cX9_feed 76 = .ok (.iinc 4 (-1), 3) := by decide +kernel
theorem dX9_feed_79 : decode cX9_feed 79 = .ok (.goto (-39), 3) := by decide +kernel
theorem dX9_feed_82 : decode cX9_feed 82 = .ok (.aload_n 0, 1) := by decide +kernel
theorem dX9_feed_83 : decode cX9_feed 83 = .ok (.getfield 80, 3) := by decide +kernel
theorem dX9_feed_86 : decode cX9_feed 86 = .ok (.ireturn, 1) := by decide +kernel
set_option maxHeartbeats 4000000 in
set_option maxRecDepth 100000 in
theorem c_X9_feed_1 (l : Launch) (D : va_G) (cI cZ cC cS : ClassId) (sq sz : Nat) (y : Nat) (y_lane : Nat) (y_many : Nat) (y_item : Nat) (y_city : Nat) (y_fresh : Nat) (y_tape : Nat) (y_cost : Nat) (y_away : Nat) (y_fee : Nat) (y_goesTo : Nat) (y_priceWas : Nat) (y_isKept : Nat) (y_kept : Nat) (y_trace : Nat) (wv : Int64) (f : Nat → Int32) : mI l yX9_feed wsX9_feed 1 25 D (tyW cI cZ cC cS) sq [(y, .inr (9, [.int 0, .int 0, .ref y_lane, .ref y_many, .ref y_item, .ref y_city, .ref y_fresh, .int 0, .ref y_tape, .int 0, .int 0, .int 0, .int 0, .int 0, .int 0, .int 0, .int 0, .int 0, .int 0, .int 0, .ref y_cost, .ref y_away, .ref y_fee, .ref y_goesTo, .ref y_priceWas, .ref y_isKept, .ref y_kept, .ref y_trace, .int 0])), (y_tape, .inl (cI, 400, .inl f))] sz [.ref y, .long wv, .int 1] (fun r w => r = 1 ∧ w = []) := by
  refine b_metI (cc := cX9_feed) (maxL := 5) (ret := (some .int)) (by decide) rfl (Nat.le_of_ble_eq_true rfl) ?_
  intro p e s m below meth c ls A H X hsz hP hK hD hA hS hl
  have S : CallFix p m c cX9_feed 5 s ([.ref y, .long wv, .int 1] : List Value).toArray wsX9_feed RX9 := X.1
  have hl : lv_has ls 5 [(0, .ref y), (1, .long wv), (3, .int 1)] := hl
  have iX9 := jX9_feed_X9
  refine lv_aload_n S.1 S.2.1 dX9_feed_0 rfl (lv_at hl 0 rfl) ?_
  refine lv_iconst (v := 0) S.1 S.2.1 dX9_feed_1 (by decide) ?_
  refine b_put (v := .int 0) S iX9 tyX9 tyX9_ok nmX9 hK hP hD hS 0 rfl rfl 0 (by decide) (by decide +kernel) rfl rfl rfl (Nat.le_of_ble_eq_true rfl) dX9_feed_2 (fun H locs hP hD hS => ?_)
  have hP : va_P D vwCl [(y, .inr (9, [.int 0, .int 0, .ref y_lane, .ref y_many, .ref y_item, .ref y_city, .ref y_fresh, .int 0, .ref y_tape, .int 0, .int 0, .int 0, .int 0, .int 0, .int 0, .int 0, .int 0, .int 0, .int 0, .int 0, .ref y_cost, .ref y_away, .ref y_fee, .ref y_goesTo, .ref y_priceWas, .ref y_isKept, .ref y_kept, .ref y_trace, .int 0])), (y_tape, .inl (cI, 400, .inl f))] H := hP
  have hD : va_D A [(y, .inr (9, [.int 0, .int 0, .ref y_lane, .ref y_many, .ref y_item, .ref y_city, .ref y_fresh, .int 0, .ref y_tape, .int 0, .int 0, .int 0, .int 0, .int 0, .int 0, .int 0, .int 0, .int 0, .int 0, .int 0, .ref y_cost, .ref y_away, .ref y_fee, .ref y_goesTo, .ref y_priceWas, .ref y_isKept, .ref y_kept, .ref y_trace, .int 0])), (y_tape, .inl (cI, 400, .inl f))] := hD
  refine lv_iload_n S.1 S.2.1 dX9_feed_5 rfl (lv_at hl 2 rfl) ?_
  refine lv_i2l (v := (1)) S.1 S.2.1 dX9_feed_6 (by decide) ?_
  refine lv_lconst (v := 1) S.1 S.2.1 dX9_feed_7 (by decide) ?_
  refine lv_ldc2 (v := (8)) S.1 S.2.1 S.2.2.2.1 (S.2.2.2.2 (.constantLong RX9 78 (8)) (by decide +kernel)) dX9_feed_8 ?_
  refine b_ai (wr := [(y, .inr (9, [.int 0, .int 0, .ref y_lane, .ref y_many, .ref y_item, .ref y_city, .ref y_fresh, .int 0, .ref y_tape, .int 0, .int 0, .int 0, .int 0, .int 0, .int 0, .int 0, .int 0, .int 0, .int 0, .int 0, .ref y_cost, .ref y_away, .ref y_fee, .ref y_goesTo, .ref y_priceWas, .ref y_isKept, .ref y_kept, .ref y_trace, .int 0])), (y_tape, .inl (cI, 400, .inl f))]) (b_runS (As := [.long 1, .long 1, .long 8]) (c_X9_in_t l D cI cZ cC cS sq H.size 1 1 8 (by decide) (by decide)) S gX9_feed_X9_in rfl hdS_X9_in ⟨Nat.le_of_ble_eq_true rfl, Nat.le_of_ble_eq_true rfl⟩ ⟨Nat.le_of_ble_eq_true rfl, Nat.le_of_ble_eq_true rfl⟩ hK hP hD [] rfl (by decide) rfl hl.1 rfl (Nat.le_of_ble_eq_true rfl) dX9_feed_11) hP hD hS hA [] [0, 1] rfl rfl (by decide) (by decide) (fun r_1 w_2 H locs hw_3 hP hD hS => ?_)
  obtain ⟨rfl, rfl⟩ := hw_3
  have hP : va_P D vwCl [(y, .inr (9, [.int 0, .int 0, .ref y_lane, .ref y_many, .ref y_item, .ref y_city, .ref y_fresh, .int 0, .ref y_tape, .int 0, .int 0, .int 0, .int 0, .int 0, .int 0, .int 0, .int 0, .int 0, .int 0, .int 0, .ref y_cost, .ref y_away, .ref y_fee, .ref y_goesTo, .ref y_priceWas, .ref y_isKept, .ref y_kept, .ref y_trace, .int 0])), (y_tape, .inl (cI, 400, .inl f))] H := hP
  have hD : va_D A [(y, .inr (9, [.int 0, .int 0, .ref y_lane, .ref y_many, .ref y_item, .ref y_city, .ref y_fresh, .int 0, .ref y_tape, .int 0, .int 0, .int 0, .int 0, .int 0, .int 0, .int 0, .int 0, .int 0, .int 0, .int 0, .ref y_cost, .ref y_away, .ref y_fee, .ref y_goesTo, .ref y_priceWas, .ref y_isKept, .ref y_kept, .ref y_trace, .int 0])), (y_tape, .inl (cI, 400, .inl f))] := hD
  refine lv_if_ne (tgt := 20) S.1 S.2.1 dX9_feed_14 (by decide) (fun c_4 => ?_) (fun c_4 => absurd c_4 (by decide))
  refine lv_aload_n S.1 S.2.1 dX9_feed_20 rfl (lv_at hl 0 rfl) ?_
  refine b_get (v := .int 0) S iX9 hK hP 0 rfl rfl 9 (by decide) (by decide +kernel) rfl dX9_feed_21 ?_
  refine lv_iload_n S.1 S.2.1 dX9_feed_24 rfl (lv_at hl 2 rfl) ?_
  refine lv_iadd S.1 S.2.1 dX9_feed_25 ?_
  refine lv_topi (fun x_5 ex_5 => ?_)
  have ex_5 : x_5 = 1 := by rw [ex_5]; decide
  subst ex_5
  refine lv_sipush (v := 400) S.1 S.2.1 dX9_feed_26 (by decide) ?_
  refine lv_icmp_le (tgt := 35) S.1 S.2.1 dX9_feed_29 (by decide) (fun c_6 => ?_) (fun c_6 => absurd c_6 (by decide))
  refine lv_iload_n S.1 S.2.1 dX9_feed_35 rfl (lv_at hl 2 rfl) ?_
  refine lv_iconst (v := 1) S.1 S.2.1 dX9_feed_36 (by decide) ?_
  refine lv_isub S.1 S.2.1 dX9_feed_37 ?_
  refine lv_topi (fun x_7 ex_7 => ?_)
  have ex_7 : x_7 = 0 := by rw [ex_7]; decide
  subst ex_7
  refine lv_istore (lv' := [(4, .int 0), (0, .ref y), (1, .long wv), (3, .int 1)]) S.1 S.2.1 dX9_feed_38 hl (by decide) rfl (fun ls hl => ?_)
  refine lv_iload S.1 S.2.1 dX9_feed_40 (lv_at hl 0 rfl) ?_
  refine lv_if_lt (tgt := 82) S.1 S.2.1 dX9_feed_42 (by decide) (fun c_8 => absurd c_8 (by decide)) (fun c_8 => ?_)
  refine lv_aload_n S.1 S.2.1 dX9_feed_45 rfl (lv_at hl 1 rfl) ?_
  refine b_get (v := .ref y_tape) S iX9 hK hP 0 rfl rfl 8 (by decide) (by decide +kernel) rfl dX9_feed_46 ?_
  refine lv_aload_n S.1 S.2.1 dX9_feed_49 rfl (lv_at hl 1 rfl) ?_
  refine b_get (v := .int 0) S iX9 hK hP 0 rfl rfl 9 (by decide) (by decide +kernel) rfl dX9_feed_50 ?_
  refine lv_lload_n S.1 S.2.1 dX9_feed_53 rfl (lv_at hl 2 rfl) ?_
  refine lv_bipush (v := 8) S.1 S.2.1 dX9_feed_54 (by decide) ?_
  refine lv_iload S.1 S.2.1 dX9_feed_56 (lv_at hl 0 rfl) ?_
  refine lv_imul S.1 S.2.1 dX9_feed_58 ?_
  refine lv_topi (fun x_9 ex_9 => ?_)
  have ex_9 : x_9 = 0 := by rw [ex_9]; decide
  subst ex_9
  refine lv_lshr S.1 S.2.1 dX9_feed_59 rfl ?_
  refine lv_topl (fun z_10 ez_10 => ?_)
  refine lv_ldc2 (v := (255)) S.1 S.2.1 S.2.2.2.1 (S.2.2.2.2 (.constantLong RX9 84 (255)) (by decide +kernel)) dX9_feed_60 ?_
  refine lv_land S.1 S.2.1 dX9_feed_63 ?_
  refine lv_topl (fun z_11 ez_11 => ?_)
  refine lv_l2i S.1 S.2.1 dX9_feed_64 rfl ?_
  refine lv_topi (fun x_13 ex_13 => ?_)
  refine va_iast S.1 S.2.1 hK.1 hP hD hS 1 0 rfl rfl (by unfold vp_in; decide) dX9_feed_65 (fun H locs hP hD hS => ?_)
  have hP : va_P D vwCl [(y, .inr (9, [.int 0, .int 0, .ref y_lane, .ref y_many, .ref y_item, .ref y_city, .ref y_fresh, .int 0, .ref y_tape, .int 0, .int 0, .int 0, .int 0, .int 0, .int 0, .int 0, .int 0, .int 0, .int 0, .int 0, .ref y_cost, .ref y_away, .ref y_fee, .ref y_goesTo, .ref y_priceWas, .ref y_isKept, .ref y_kept, .ref y_trace, .int 0])), (y_tape, .inl (cI, 400, .inl (upd f (0 : Int32).toNatClampNeg (x_13))))] H := hP
  have hD : va_D A [(y, .inr (9, [.int 0, .int 0, .ref y_lane, .ref y_many, .ref y_item, .ref y_city, .ref y_fresh, .int 0, .ref y_tape, .int 0, .int 0, .int 0, .int 0, .int 0, .int 0, .int 0, .int 0, .int 0, .int 0, .int 0, .ref y_cost, .ref y_away, .ref y_fee, .ref y_goesTo, .ref y_priceWas, .ref y_isKept, .ref y_kept, .ref y_trace, .int 0])), (y_tape, .inl (cI, 400, .inl (upd f (0 : Int32).toNatClampNeg (x_13))))] := hD
  generalize (upd f (0 : Int32).toNatClampNeg (x_13)) = f_14 at hP hD
  refine lv_aload_n S.1 S.2.1 dX9_feed_66 rfl (lv_at hl 1 rfl) ?_
  refine lv_dup S.1 S.2.1 dX9_feed_67 rfl ?_
  refine b_get (v := .int 0) S iX9 hK hP 0 rfl rfl 9 (by decide) (by decide +kernel) rfl dX9_feed_68 ?_
  refine lv_iconst (v := 1) S.1 S.2.1 dX9_feed_71 (by decide) ?_
  refine lv_iadd S.1 S.2.1 dX9_feed_72 ?_
  refine lv_topi (fun x_15 ex_15 => ?_)
  have ex_15 : x_15 = 1 := by rw [ex_15]; decide
  subst ex_15
  refine b_put (v := .int 1) S iX9 tyX9 tyX9_ok nmX9 hK hP hD hS 0 rfl rfl 9 (by decide) (by decide +kernel) rfl rfl rfl (Nat.le_of_ble_eq_true rfl) dX9_feed_73 (fun H locs hP hD hS => ?_)
  have hP : va_P D vwCl [(y, .inr (9, [.int 0, .int 0, .ref y_lane, .ref y_many, .ref y_item, .ref y_city, .ref y_fresh, .int 0, .ref y_tape, .int 1, .int 0, .int 0, .int 0, .int 0, .int 0, .int 0, .int 0, .int 0, .int 0, .int 0, .ref y_cost, .ref y_away, .ref y_fee, .ref y_goesTo, .ref y_priceWas, .ref y_isKept, .ref y_kept, .ref y_trace, .int 0])), (y_tape, .inl (cI, 400, .inl f_14))] H := hP
  have hD : va_D A [(y, .inr (9, [.int 0, .int 0, .ref y_lane, .ref y_many, .ref y_item, .ref y_city, .ref y_fresh, .int 0, .ref y_tape, .int 1, .int 0, .int 0, .int 0, .int 0, .int 0, .int 0, .int 0, .int 0, .int 0, .int 0, .ref y_cost, .ref y_away, .ref y_fee, .ref y_goesTo, .ref y_priceWas, .ref y_isKept, .ref y_kept, .ref y_trace, .int 0])), (y_tape, .inl (cI, 400, .inl f_14))] := hD
  refine lv_iinc (v := (-1)) (lv' := [(4, .int (-1)), (0, .ref y), (1, .long wv), (3, .int 1)]) S.1 S.2.1 dX9_feed_76 hl (k := 0) rfl (by decide) (by decide) rfl (fun ls hl => ?_)
  refine lv_goto (tgt := 40) S.1 S.2.1 dX9_feed_79 (by decide) ?_
  refine lv_iload S.1 S.2.1 dX9_feed_40 (lv_at hl 0 rfl) ?_
  refine lv_if_lt (tgt := 82) S.1 S.2.1 dX9_feed_42 (by decide) (fun c_16 => ?_) (fun c_16 => absurd c_16 (by decide))
  refine lv_aload_n S.1 S.2.1 dX9_feed_82 rfl (lv_at hl 1 rfl) ?_
  refine b_get (v := .int 1) S iX9 hK hP 0 rfl rfl 9 (by decide) (by decide +kernel) rfl dX9_feed_83 ?_
  have hP := hP.sub (ws' := []) [] rfl
  have hD := hD.sub (ws' := []) [] (by decide) rfl
  exact b_iret S.1 S.2.1 X.2.1 X.2.2.1 hP hD hS ⟨rfl, rfl⟩ dX9_feed_86
set_option maxHeartbeats 4000000 in
set_option maxRecDepth 100000 in
theorem c_X9_feed_2 (l : Launch) (D : va_G) (cI cZ cC cS : ClassId) (sq sz : Nat) (y : Nat) (y_lane : Nat) (y_many : Nat) (y_item : Nat) (y_city : Nat) (y_fresh : Nat) (y_tape : Nat) (y_cost : Nat) (y_away : Nat) (y_fee : Nat) (y_goesTo : Nat) (y_priceWas : Nat) (y_isKept : Nat) (y_kept : Nat) (y_trace : Nat) (wv : Int64) (f : Nat → Int32) : mI l yX9_feed wsX9_feed 1 25 D (tyW cI cZ cC cS) sq [(y, .inr (9, [.int 0, .int 0, .ref y_lane, .ref y_many, .ref y_item, .ref y_city, .ref y_fresh, .int 0, .ref y_tape, .int 0, .int 0, .int 0, .int 0, .int 0, .int 0, .int 0, .int 0, .int 0, .int 0, .int 0, .ref y_cost, .ref y_away, .ref y_fee, .ref y_goesTo, .ref y_priceWas, .ref y_isKept, .ref y_kept, .ref y_trace, .int 0])), (y_tape, .inl (cI, 400, .inl f))] sz [.ref y, .long wv, .int 2] (fun r w => r = 2 ∧ w = []) := by
  refine b_metI (cc := cX9_feed) (maxL := 5) (ret := (some .int)) (by decide) rfl (Nat.le_of_ble_eq_true rfl) ?_
  intro p e s m below meth c ls A H X hsz hP hK hD hA hS hl
  have S : CallFix p m c cX9_feed 5 s ([.ref y, .long wv, .int 2] : List Value).toArray wsX9_feed RX9 := X.1
  have hl : lv_has ls 5 [(0, .ref y), (1, .long wv), (3, .int 2)] := hl
  have iX9 := jX9_feed_X9
  refine lv_aload_n S.1 S.2.1 dX9_feed_0 rfl (lv_at hl 0 rfl) ?_
  refine lv_iconst (v := 0) S.1 S.2.1 dX9_feed_1 (by decide) ?_
  refine b_put (v := .int 0) S iX9 tyX9 tyX9_ok nmX9 hK hP hD hS 0 rfl rfl 0 (by decide) (by decide +kernel) rfl rfl rfl (Nat.le_of_ble_eq_true rfl) dX9_feed_2 (fun H locs hP hD hS => ?_)
  have hP : va_P D vwCl [(y, .inr (9, [.int 0, .int 0, .ref y_lane, .ref y_many, .ref y_item, .ref y_city, .ref y_fresh, .int 0, .ref y_tape, .int 0, .int 0, .int 0, .int 0, .int 0, .int 0, .int 0, .int 0, .int 0, .int 0, .int 0, .ref y_cost, .ref y_away, .ref y_fee, .ref y_goesTo, .ref y_priceWas, .ref y_isKept, .ref y_kept, .ref y_trace, .int 0])), (y_tape, .inl (cI, 400, .inl f))] H := hP
  have hD : va_D A [(y, .inr (9, [.int 0, .int 0, .ref y_lane, .ref y_many, .ref y_item, .ref y_city, .ref y_fresh, .int 0, .ref y_tape, .int 0, .int 0, .int 0, .int 0, .int 0, .int 0, .int 0, .int 0, .int 0, .int 0, .int 0, .ref y_cost, .ref y_away, .ref y_fee, .ref y_goesTo, .ref y_priceWas, .ref y_isKept, .ref y_kept, .ref y_trace, .int 0])), (y_tape, .inl (cI, 400, .inl f))] := hD
  refine lv_iload_n S.1 S.2.1 dX9_feed_5 rfl (lv_at hl 2 rfl) ?_
  refine lv_i2l (v := (2)) S.1 S.2.1 dX9_feed_6 (by decide) ?_
  refine lv_lconst (v := 1) S.1 S.2.1 dX9_feed_7 (by decide) ?_
  refine lv_ldc2 (v := (8)) S.1 S.2.1 S.2.2.2.1 (S.2.2.2.2 (.constantLong RX9 78 (8)) (by decide +kernel)) dX9_feed_8 ?_
  refine b_ai (wr := [(y, .inr (9, [.int 0, .int 0, .ref y_lane, .ref y_many, .ref y_item, .ref y_city, .ref y_fresh, .int 0, .ref y_tape, .int 0, .int 0, .int 0, .int 0, .int 0, .int 0, .int 0, .int 0, .int 0, .int 0, .int 0, .ref y_cost, .ref y_away, .ref y_fee, .ref y_goesTo, .ref y_priceWas, .ref y_isKept, .ref y_kept, .ref y_trace, .int 0])), (y_tape, .inl (cI, 400, .inl f))]) (b_runS (As := [.long 2, .long 1, .long 8]) (c_X9_in_t l D cI cZ cC cS sq H.size 2 1 8 (by decide) (by decide)) S gX9_feed_X9_in rfl hdS_X9_in ⟨Nat.le_of_ble_eq_true rfl, Nat.le_of_ble_eq_true rfl⟩ ⟨Nat.le_of_ble_eq_true rfl, Nat.le_of_ble_eq_true rfl⟩ hK hP hD [] rfl (by decide) rfl hl.1 rfl (Nat.le_of_ble_eq_true rfl) dX9_feed_11) hP hD hS hA [] [0, 1] rfl rfl (by decide) (by decide) (fun r_1 w_2 H locs hw_3 hP hD hS => ?_)
  obtain ⟨rfl, rfl⟩ := hw_3
  have hP : va_P D vwCl [(y, .inr (9, [.int 0, .int 0, .ref y_lane, .ref y_many, .ref y_item, .ref y_city, .ref y_fresh, .int 0, .ref y_tape, .int 0, .int 0, .int 0, .int 0, .int 0, .int 0, .int 0, .int 0, .int 0, .int 0, .int 0, .ref y_cost, .ref y_away, .ref y_fee, .ref y_goesTo, .ref y_priceWas, .ref y_isKept, .ref y_kept, .ref y_trace, .int 0])), (y_tape, .inl (cI, 400, .inl f))] H := hP
  have hD : va_D A [(y, .inr (9, [.int 0, .int 0, .ref y_lane, .ref y_many, .ref y_item, .ref y_city, .ref y_fresh, .int 0, .ref y_tape, .int 0, .int 0, .int 0, .int 0, .int 0, .int 0, .int 0, .int 0, .int 0, .int 0, .int 0, .ref y_cost, .ref y_away, .ref y_fee, .ref y_goesTo, .ref y_priceWas, .ref y_isKept, .ref y_kept, .ref y_trace, .int 0])), (y_tape, .inl (cI, 400, .inl f))] := hD
  refine lv_if_ne (tgt := 20) S.1 S.2.1 dX9_feed_14 (by decide) (fun c_4 => ?_) (fun c_4 => absurd c_4 (by decide))
  refine lv_aload_n S.1 S.2.1 dX9_feed_20 rfl (lv_at hl 0 rfl) ?_
  refine b_get (v := .int 0) S iX9 hK hP 0 rfl rfl 9 (by decide) (by decide +kernel) rfl dX9_feed_21 ?_
  refine lv_iload_n S.1 S.2.1 dX9_feed_24 rfl (lv_at hl 2 rfl) ?_
  refine lv_iadd S.1 S.2.1 dX9_feed_25 ?_
  refine lv_topi (fun x_5 ex_5 => ?_)
  have ex_5 : x_5 = 2 := by rw [ex_5]; decide
  subst ex_5
  refine lv_sipush (v := 400) S.1 S.2.1 dX9_feed_26 (by decide) ?_
  refine lv_icmp_le (tgt := 35) S.1 S.2.1 dX9_feed_29 (by decide) (fun c_6 => ?_) (fun c_6 => absurd c_6 (by decide))
  refine lv_iload_n S.1 S.2.1 dX9_feed_35 rfl (lv_at hl 2 rfl) ?_
  refine lv_iconst (v := 1) S.1 S.2.1 dX9_feed_36 (by decide) ?_
  refine lv_isub S.1 S.2.1 dX9_feed_37 ?_
  refine lv_topi (fun x_7 ex_7 => ?_)
  have ex_7 : x_7 = 1 := by rw [ex_7]; decide
  subst ex_7
  refine lv_istore (lv' := [(4, .int 1), (0, .ref y), (1, .long wv), (3, .int 2)]) S.1 S.2.1 dX9_feed_38 hl (by decide) rfl (fun ls hl => ?_)
  refine lv_iload S.1 S.2.1 dX9_feed_40 (lv_at hl 0 rfl) ?_
  refine lv_if_lt (tgt := 82) S.1 S.2.1 dX9_feed_42 (by decide) (fun c_8 => absurd c_8 (by decide)) (fun c_8 => ?_)
  refine lv_aload_n S.1 S.2.1 dX9_feed_45 rfl (lv_at hl 1 rfl) ?_
  refine b_get (v := .ref y_tape) S iX9 hK hP 0 rfl rfl 8 (by decide) (by decide +kernel) rfl dX9_feed_46 ?_
  refine lv_aload_n S.1 S.2.1 dX9_feed_49 rfl (lv_at hl 1 rfl) ?_
  refine b_get (v := .int 0) S iX9 hK hP 0 rfl rfl 9 (by decide) (by decide +kernel) rfl dX9_feed_50 ?_
  refine lv_lload_n S.1 S.2.1 dX9_feed_53 rfl (lv_at hl 2 rfl) ?_
  refine lv_bipush (v := 8) S.1 S.2.1 dX9_feed_54 (by decide) ?_
  refine lv_iload S.1 S.2.1 dX9_feed_56 (lv_at hl 0 rfl) ?_
  refine lv_imul S.1 S.2.1 dX9_feed_58 ?_
  refine lv_topi (fun x_9 ex_9 => ?_)
  have ex_9 : x_9 = 8 := by rw [ex_9]; decide
  subst ex_9
  refine lv_lshr S.1 S.2.1 dX9_feed_59 rfl ?_
  refine lv_topl (fun z_10 ez_10 => ?_)
  refine lv_ldc2 (v := (255)) S.1 S.2.1 S.2.2.2.1 (S.2.2.2.2 (.constantLong RX9 84 (255)) (by decide +kernel)) dX9_feed_60 ?_
  refine lv_land S.1 S.2.1 dX9_feed_63 ?_
  refine lv_topl (fun z_11 ez_11 => ?_)
  refine lv_l2i S.1 S.2.1 dX9_feed_64 rfl ?_
  refine lv_topi (fun x_13 ex_13 => ?_)
  refine va_iast S.1 S.2.1 hK.1 hP hD hS 1 0 rfl rfl (by unfold vp_in; decide) dX9_feed_65 (fun H locs hP hD hS => ?_)
  have hP : va_P D vwCl [(y, .inr (9, [.int 0, .int 0, .ref y_lane, .ref y_many, .ref y_item, .ref y_city, .ref y_fresh, .int 0, .ref y_tape, .int 0, .int 0, .int 0, .int 0, .int 0, .int 0, .int 0, .int 0, .int 0, .int 0, .int 0, .ref y_cost, .ref y_away, .ref y_fee, .ref y_goesTo, .ref y_priceWas, .ref y_isKept, .ref y_kept, .ref y_trace, .int 0])), (y_tape, .inl (cI, 400, .inl (upd f (0 : Int32).toNatClampNeg (x_13))))] H := hP
  have hD : va_D A [(y, .inr (9, [.int 0, .int 0, .ref y_lane, .ref y_many, .ref y_item, .ref y_city, .ref y_fresh, .int 0, .ref y_tape, .int 0, .int 0, .int 0, .int 0, .int 0, .int 0, .int 0, .int 0, .int 0, .int 0, .int 0, .ref y_cost, .ref y_away, .ref y_fee, .ref y_goesTo, .ref y_priceWas, .ref y_isKept, .ref y_kept, .ref y_trace, .int 0])), (y_tape, .inl (cI, 400, .inl (upd f (0 : Int32).toNatClampNeg (x_13))))] := hD
  generalize (upd f (0 : Int32).toNatClampNeg (x_13)) = f_14 at hP hD
  refine lv_aload_n S.1 S.2.1 dX9_feed_66 rfl (lv_at hl 1 rfl) ?_
  refine lv_dup S.1 S.2.1 dX9_feed_67 rfl ?_
  refine b_get (v := .int 0) S iX9 hK hP 0 rfl rfl 9 (by decide) (by decide +kernel) rfl dX9_feed_68 ?_
  refine lv_iconst (v := 1) S.1 S.2.1 dX9_feed_71 (by decide) ?_
  refine lv_iadd S.1 S.2.1 dX9_feed_72 ?_
  refine lv_topi (fun x_15 ex_15 => ?_)
  have ex_15 : x_15 = 1 := by rw [ex_15]; decide
  subst ex_15
  refine b_put (v := .int 1) S iX9 tyX9 tyX9_ok nmX9 hK hP hD hS 0 rfl rfl 9 (by decide) (by decide +kernel) rfl rfl rfl (Nat.le_of_ble_eq_true rfl) dX9_feed_73 (fun H locs hP hD hS => ?_)
  have hP : va_P D vwCl [(y, .inr (9, [.int 0, .int 0, .ref y_lane, .ref y_many, .ref y_item, .ref y_city, .ref y_fresh, .int 0, .ref y_tape, .int 1, .int 0, .int 0, .int 0, .int 0, .int 0, .int 0, .int 0, .int 0, .int 0, .int 0, .ref y_cost, .ref y_away, .ref y_fee, .ref y_goesTo, .ref y_priceWas, .ref y_isKept, .ref y_kept, .ref y_trace, .int 0])), (y_tape, .inl (cI, 400, .inl f_14))] H := hP
  have hD : va_D A [(y, .inr (9, [.int 0, .int 0, .ref y_lane, .ref y_many, .ref y_item, .ref y_city, .ref y_fresh, .int 0, .ref y_tape, .int 1, .int 0, .int 0, .int 0, .int 0, .int 0, .int 0, .int 0, .int 0, .int 0, .int 0, .ref y_cost, .ref y_away, .ref y_fee, .ref y_goesTo, .ref y_priceWas, .ref y_isKept, .ref y_kept, .ref y_trace, .int 0])), (y_tape, .inl (cI, 400, .inl f_14))] := hD
  refine lv_iinc (v := 0) (lv' := [(4, .int 0), (0, .ref y), (1, .long wv), (3, .int 2)]) S.1 S.2.1 dX9_feed_76 hl (k := 0) rfl (by decide) (by decide) rfl (fun ls hl => ?_)
  refine lv_goto (tgt := 40) S.1 S.2.1 dX9_feed_79 (by decide) ?_
  refine lv_iload S.1 S.2.1 dX9_feed_40 (lv_at hl 0 rfl) ?_
  refine lv_if_lt (tgt := 82) S.1 S.2.1 dX9_feed_42 (by decide) (fun c_16 => absurd c_16 (by decide)) (fun c_16 => ?_)
  refine lv_aload_n S.1 S.2.1 dX9_feed_45 rfl (lv_at hl 1 rfl) ?_
  refine b_get (v := .ref y_tape) S iX9 hK hP 0 rfl rfl 8 (by decide) (by decide +kernel) rfl dX9_feed_46 ?_
  refine lv_aload_n S.1 S.2.1 dX9_feed_49 rfl (lv_at hl 1 rfl) ?_
  refine b_get (v := .int 1) S iX9 hK hP 0 rfl rfl 9 (by decide) (by decide +kernel) rfl dX9_feed_50 ?_
  refine lv_lload_n S.1 S.2.1 dX9_feed_53 rfl (lv_at hl 2 rfl) ?_
  refine lv_bipush (v := 8) S.1 S.2.1 dX9_feed_54 (by decide) ?_
  refine lv_iload S.1 S.2.1 dX9_feed_56 (lv_at hl 0 rfl) ?_
  refine lv_imul S.1 S.2.1 dX9_feed_58 ?_
  refine lv_topi (fun x_17 ex_17 => ?_)
  have ex_17 : x_17 = 0 := by rw [ex_17]; decide
  subst ex_17
  refine lv_lshr S.1 S.2.1 dX9_feed_59 rfl ?_
  refine lv_topl (fun z_18 ez_18 => ?_)
  refine lv_ldc2 (v := (255)) S.1 S.2.1 S.2.2.2.1 (S.2.2.2.2 (.constantLong RX9 84 (255)) (by decide +kernel)) dX9_feed_60 ?_
  refine lv_land S.1 S.2.1 dX9_feed_63 ?_
  refine lv_topl (fun z_19 ez_19 => ?_)
  refine lv_l2i S.1 S.2.1 dX9_feed_64 rfl ?_
  refine lv_topi (fun x_21 ex_21 => ?_)
  refine va_iast S.1 S.2.1 hK.1 hP hD hS 1 0 rfl rfl (by unfold vp_in; decide) dX9_feed_65 (fun H locs hP hD hS => ?_)
  have hP : va_P D vwCl [(y, .inr (9, [.int 0, .int 0, .ref y_lane, .ref y_many, .ref y_item, .ref y_city, .ref y_fresh, .int 0, .ref y_tape, .int 1, .int 0, .int 0, .int 0, .int 0, .int 0, .int 0, .int 0, .int 0, .int 0, .int 0, .ref y_cost, .ref y_away, .ref y_fee, .ref y_goesTo, .ref y_priceWas, .ref y_isKept, .ref y_kept, .ref y_trace, .int 0])), (y_tape, .inl (cI, 400, .inl (upd f_14 (1 : Int32).toNatClampNeg (x_21))))] H := hP
  have hD : va_D A [(y, .inr (9, [.int 0, .int 0, .ref y_lane, .ref y_many, .ref y_item, .ref y_city, .ref y_fresh, .int 0, .ref y_tape, .int 1, .int 0, .int 0, .int 0, .int 0, .int 0, .int 0, .int 0, .int 0, .int 0, .int 0, .ref y_cost, .ref y_away, .ref y_fee, .ref y_goesTo, .ref y_priceWas, .ref y_isKept, .ref y_kept, .ref y_trace, .int 0])), (y_tape, .inl (cI, 400, .inl (upd f_14 (1 : Int32).toNatClampNeg (x_21))))] := hD
  generalize (upd f_14 (1 : Int32).toNatClampNeg (x_21)) = f_22 at hP hD
  refine lv_aload_n S.1 S.2.1 dX9_feed_66 rfl (lv_at hl 1 rfl) ?_
  refine lv_dup S.1 S.2.1 dX9_feed_67 rfl ?_
  refine b_get (v := .int 1) S iX9 hK hP 0 rfl rfl 9 (by decide) (by decide +kernel) rfl dX9_feed_68 ?_
  refine lv_iconst (v := 1) S.1 S.2.1 dX9_feed_71 (by decide) ?_
  refine lv_iadd S.1 S.2.1 dX9_feed_72 ?_
  refine lv_topi (fun x_23 ex_23 => ?_)
  have ex_23 : x_23 = 2 := by rw [ex_23]; decide
  subst ex_23
  refine b_put (v := .int 2) S iX9 tyX9 tyX9_ok nmX9 hK hP hD hS 0 rfl rfl 9 (by decide) (by decide +kernel) rfl rfl rfl (Nat.le_of_ble_eq_true rfl) dX9_feed_73 (fun H locs hP hD hS => ?_)
  have hP : va_P D vwCl [(y, .inr (9, [.int 0, .int 0, .ref y_lane, .ref y_many, .ref y_item, .ref y_city, .ref y_fresh, .int 0, .ref y_tape, .int 2, .int 0, .int 0, .int 0, .int 0, .int 0, .int 0, .int 0, .int 0, .int 0, .int 0, .ref y_cost, .ref y_away, .ref y_fee, .ref y_goesTo, .ref y_priceWas, .ref y_isKept, .ref y_kept, .ref y_trace, .int 0])), (y_tape, .inl (cI, 400, .inl f_22))] H := hP
  have hD : va_D A [(y, .inr (9, [.int 0, .int 0, .ref y_lane, .ref y_many, .ref y_item, .ref y_city, .ref y_fresh, .int 0, .ref y_tape, .int 2, .int 0, .int 0, .int 0, .int 0, .int 0, .int 0, .int 0, .int 0, .int 0, .int 0, .ref y_cost, .ref y_away, .ref y_fee, .ref y_goesTo, .ref y_priceWas, .ref y_isKept, .ref y_kept, .ref y_trace, .int 0])), (y_tape, .inl (cI, 400, .inl f_22))] := hD
  refine lv_iinc (v := (-1)) (lv' := [(4, .int (-1)), (0, .ref y), (1, .long wv), (3, .int 2)]) S.1 S.2.1 dX9_feed_76 hl (k := 0) rfl (by decide) (by decide) rfl (fun ls hl => ?_)
  refine lv_goto (tgt := 40) S.1 S.2.1 dX9_feed_79 (by decide) ?_
  refine lv_iload S.1 S.2.1 dX9_feed_40 (lv_at hl 0 rfl) ?_
  refine lv_if_lt (tgt := 82) S.1 S.2.1 dX9_feed_42 (by decide) (fun c_24 => ?_) (fun c_24 => absurd c_24 (by decide))
  refine lv_aload_n S.1 S.2.1 dX9_feed_82 rfl (lv_at hl 1 rfl) ?_
  refine b_get (v := .int 2) S iX9 hK hP 0 rfl rfl 9 (by decide) (by decide +kernel) rfl dX9_feed_83 ?_
  have hP := hP.sub (ws' := []) [] rfl
  have hD := hD.sub (ws' := []) [] (by decide) rfl
  exact b_iret S.1 S.2.1 X.2.1 X.2.2.1 hP hD hS ⟨rfl, rfl⟩ dX9_feed_86
set_option maxHeartbeats 4000000 in
set_option maxRecDepth 100000 in
theorem c_X9_feed_3 (l : Launch) (D : va_G) (cI cZ cC cS : ClassId) (sq sz : Nat) (y : Nat) (y_lane : Nat) (y_many : Nat) (y_item : Nat) (y_city : Nat) (y_fresh : Nat) (y_tape : Nat) (y_cost : Nat) (y_away : Nat) (y_fee : Nat) (y_goesTo : Nat) (y_priceWas : Nat) (y_isKept : Nat) (y_kept : Nat) (y_trace : Nat) (wv : Int64) (f : Nat → Int32) : mI l yX9_feed wsX9_feed 1 25 D (tyW cI cZ cC cS) sq [(y, .inr (9, [.int 0, .int 0, .ref y_lane, .ref y_many, .ref y_item, .ref y_city, .ref y_fresh, .int 0, .ref y_tape, .int 0, .int 0, .int 0, .int 0, .int 0, .int 0, .int 0, .int 0, .int 0, .int 0, .int 0, .ref y_cost, .ref y_away, .ref y_fee, .ref y_goesTo, .ref y_priceWas, .ref y_isKept, .ref y_kept, .ref y_trace, .int 0])), (y_tape, .inl (cI, 400, .inl f))] sz [.ref y, .long wv, .int 3] (fun r w => r = 3 ∧ w = []) := by
  refine b_metI (cc := cX9_feed) (maxL := 5) (ret := (some .int)) (by decide) rfl (Nat.le_of_ble_eq_true rfl) ?_
  intro p e s m below meth c ls A H X hsz hP hK hD hA hS hl
  have S : CallFix p m c cX9_feed 5 s ([.ref y, .long wv, .int 3] : List Value).toArray wsX9_feed RX9 := X.1
  have hl : lv_has ls 5 [(0, .ref y), (1, .long wv), (3, .int 3)] := hl
  have iX9 := jX9_feed_X9
  refine lv_aload_n S.1 S.2.1 dX9_feed_0 rfl (lv_at hl 0 rfl) ?_
  refine lv_iconst (v := 0) S.1 S.2.1 dX9_feed_1 (by decide) ?_
  refine b_put (v := .int 0) S iX9 tyX9 tyX9_ok nmX9 hK hP hD hS 0 rfl rfl 0 (by decide) (by decide +kernel) rfl rfl rfl (Nat.le_of_ble_eq_true rfl) dX9_feed_2 (fun H locs hP hD hS => ?_)
  have hP : va_P D vwCl [(y, .inr (9, [.int 0, .int 0, .ref y_lane, .ref y_many, .ref y_item, .ref y_city, .ref y_fresh, .int 0, .ref y_tape, .int 0, .int 0, .int 0, .int 0, .int 0, .int 0, .int 0, .int 0, .int 0, .int 0, .int 0, .ref y_cost, .ref y_away, .ref y_fee, .ref y_goesTo, .ref y_priceWas, .ref y_isKept, .ref y_kept, .ref y_trace, .int 0])), (y_tape, .inl (cI, 400, .inl f))] H := hP
  have hD : va_D A [(y, .inr (9, [.int 0, .int 0, .ref y_lane, .ref y_many, .ref y_item, .ref y_city, .ref y_fresh, .int 0, .ref y_tape, .int 0, .int 0, .int 0, .int 0, .int 0, .int 0, .int 0, .int 0, .int 0, .int 0, .int 0, .ref y_cost, .ref y_away, .ref y_fee, .ref y_goesTo, .ref y_priceWas, .ref y_isKept, .ref y_kept, .ref y_trace, .int 0])), (y_tape, .inl (cI, 400, .inl f))] := hD
  refine lv_iload_n S.1 S.2.1 dX9_feed_5 rfl (lv_at hl 2 rfl) ?_
  refine lv_i2l (v := (3)) S.1 S.2.1 dX9_feed_6 (by decide) ?_
  refine lv_lconst (v := 1) S.1 S.2.1 dX9_feed_7 (by decide) ?_
  refine lv_ldc2 (v := (8)) S.1 S.2.1 S.2.2.2.1 (S.2.2.2.2 (.constantLong RX9 78 (8)) (by decide +kernel)) dX9_feed_8 ?_
  refine b_ai (wr := [(y, .inr (9, [.int 0, .int 0, .ref y_lane, .ref y_many, .ref y_item, .ref y_city, .ref y_fresh, .int 0, .ref y_tape, .int 0, .int 0, .int 0, .int 0, .int 0, .int 0, .int 0, .int 0, .int 0, .int 0, .int 0, .ref y_cost, .ref y_away, .ref y_fee, .ref y_goesTo, .ref y_priceWas, .ref y_isKept, .ref y_kept, .ref y_trace, .int 0])), (y_tape, .inl (cI, 400, .inl f))]) (b_runS (As := [.long 3, .long 1, .long 8]) (c_X9_in_t l D cI cZ cC cS sq H.size 3 1 8 (by decide) (by decide)) S gX9_feed_X9_in rfl hdS_X9_in ⟨Nat.le_of_ble_eq_true rfl, Nat.le_of_ble_eq_true rfl⟩ ⟨Nat.le_of_ble_eq_true rfl, Nat.le_of_ble_eq_true rfl⟩ hK hP hD [] rfl (by decide) rfl hl.1 rfl (Nat.le_of_ble_eq_true rfl) dX9_feed_11) hP hD hS hA [] [0, 1] rfl rfl (by decide) (by decide) (fun r_1 w_2 H locs hw_3 hP hD hS => ?_)
  obtain ⟨rfl, rfl⟩ := hw_3
  have hP : va_P D vwCl [(y, .inr (9, [.int 0, .int 0, .ref y_lane, .ref y_many, .ref y_item, .ref y_city, .ref y_fresh, .int 0, .ref y_tape, .int 0, .int 0, .int 0, .int 0, .int 0, .int 0, .int 0, .int 0, .int 0, .int 0, .int 0, .ref y_cost, .ref y_away, .ref y_fee, .ref y_goesTo, .ref y_priceWas, .ref y_isKept, .ref y_kept, .ref y_trace, .int 0])), (y_tape, .inl (cI, 400, .inl f))] H := hP
  have hD : va_D A [(y, .inr (9, [.int 0, .int 0, .ref y_lane, .ref y_many, .ref y_item, .ref y_city, .ref y_fresh, .int 0, .ref y_tape, .int 0, .int 0, .int 0, .int 0, .int 0, .int 0, .int 0, .int 0, .int 0, .int 0, .int 0, .ref y_cost, .ref y_away, .ref y_fee, .ref y_goesTo, .ref y_priceWas, .ref y_isKept, .ref y_kept, .ref y_trace, .int 0])), (y_tape, .inl (cI, 400, .inl f))] := hD
  refine lv_if_ne (tgt := 20) S.1 S.2.1 dX9_feed_14 (by decide) (fun c_4 => ?_) (fun c_4 => absurd c_4 (by decide))
  refine lv_aload_n S.1 S.2.1 dX9_feed_20 rfl (lv_at hl 0 rfl) ?_
  refine b_get (v := .int 0) S iX9 hK hP 0 rfl rfl 9 (by decide) (by decide +kernel) rfl dX9_feed_21 ?_
  refine lv_iload_n S.1 S.2.1 dX9_feed_24 rfl (lv_at hl 2 rfl) ?_
  refine lv_iadd S.1 S.2.1 dX9_feed_25 ?_
  refine lv_topi (fun x_5 ex_5 => ?_)
  have ex_5 : x_5 = 3 := by rw [ex_5]; decide
  subst ex_5
  refine lv_sipush (v := 400) S.1 S.2.1 dX9_feed_26 (by decide) ?_
  refine lv_icmp_le (tgt := 35) S.1 S.2.1 dX9_feed_29 (by decide) (fun c_6 => ?_) (fun c_6 => absurd c_6 (by decide))
  refine lv_iload_n S.1 S.2.1 dX9_feed_35 rfl (lv_at hl 2 rfl) ?_
  refine lv_iconst (v := 1) S.1 S.2.1 dX9_feed_36 (by decide) ?_
  refine lv_isub S.1 S.2.1 dX9_feed_37 ?_
  refine lv_topi (fun x_7 ex_7 => ?_)
  have ex_7 : x_7 = 2 := by rw [ex_7]; decide
  subst ex_7
  refine lv_istore (lv' := [(4, .int 2), (0, .ref y), (1, .long wv), (3, .int 3)]) S.1 S.2.1 dX9_feed_38 hl (by decide) rfl (fun ls hl => ?_)
  refine lv_iload S.1 S.2.1 dX9_feed_40 (lv_at hl 0 rfl) ?_
  refine lv_if_lt (tgt := 82) S.1 S.2.1 dX9_feed_42 (by decide) (fun c_8 => absurd c_8 (by decide)) (fun c_8 => ?_)
  refine lv_aload_n S.1 S.2.1 dX9_feed_45 rfl (lv_at hl 1 rfl) ?_
  refine b_get (v := .ref y_tape) S iX9 hK hP 0 rfl rfl 8 (by decide) (by decide +kernel) rfl dX9_feed_46 ?_
  refine lv_aload_n S.1 S.2.1 dX9_feed_49 rfl (lv_at hl 1 rfl) ?_
  refine b_get (v := .int 0) S iX9 hK hP 0 rfl rfl 9 (by decide) (by decide +kernel) rfl dX9_feed_50 ?_
  refine lv_lload_n S.1 S.2.1 dX9_feed_53 rfl (lv_at hl 2 rfl) ?_
  refine lv_bipush (v := 8) S.1 S.2.1 dX9_feed_54 (by decide) ?_
  refine lv_iload S.1 S.2.1 dX9_feed_56 (lv_at hl 0 rfl) ?_
  refine lv_imul S.1 S.2.1 dX9_feed_58 ?_
  refine lv_topi (fun x_9 ex_9 => ?_)
  have ex_9 : x_9 = 16 := by rw [ex_9]; decide
  subst ex_9
  refine lv_lshr S.1 S.2.1 dX9_feed_59 rfl ?_
  refine lv_topl (fun z_10 ez_10 => ?_)
  refine lv_ldc2 (v := (255)) S.1 S.2.1 S.2.2.2.1 (S.2.2.2.2 (.constantLong RX9 84 (255)) (by decide +kernel)) dX9_feed_60 ?_
  refine lv_land S.1 S.2.1 dX9_feed_63 ?_
  refine lv_topl (fun z_11 ez_11 => ?_)
  refine lv_l2i S.1 S.2.1 dX9_feed_64 rfl ?_
  refine lv_topi (fun x_13 ex_13 => ?_)
  refine va_iast S.1 S.2.1 hK.1 hP hD hS 1 0 rfl rfl (by unfold vp_in; decide) dX9_feed_65 (fun H locs hP hD hS => ?_)
  have hP : va_P D vwCl [(y, .inr (9, [.int 0, .int 0, .ref y_lane, .ref y_many, .ref y_item, .ref y_city, .ref y_fresh, .int 0, .ref y_tape, .int 0, .int 0, .int 0, .int 0, .int 0, .int 0, .int 0, .int 0, .int 0, .int 0, .int 0, .ref y_cost, .ref y_away, .ref y_fee, .ref y_goesTo, .ref y_priceWas, .ref y_isKept, .ref y_kept, .ref y_trace, .int 0])), (y_tape, .inl (cI, 400, .inl (upd f (0 : Int32).toNatClampNeg (x_13))))] H := hP
  have hD : va_D A [(y, .inr (9, [.int 0, .int 0, .ref y_lane, .ref y_many, .ref y_item, .ref y_city, .ref y_fresh, .int 0, .ref y_tape, .int 0, .int 0, .int 0, .int 0, .int 0, .int 0, .int 0, .int 0, .int 0, .int 0, .int 0, .ref y_cost, .ref y_away, .ref y_fee, .ref y_goesTo, .ref y_priceWas, .ref y_isKept, .ref y_kept, .ref y_trace, .int 0])), (y_tape, .inl (cI, 400, .inl (upd f (0 : Int32).toNatClampNeg (x_13))))] := hD
  generalize (upd f (0 : Int32).toNatClampNeg (x_13)) = f_14 at hP hD
  refine lv_aload_n S.1 S.2.1 dX9_feed_66 rfl (lv_at hl 1 rfl) ?_
  refine lv_dup S.1 S.2.1 dX9_feed_67 rfl ?_
  refine b_get (v := .int 0) S iX9 hK hP 0 rfl rfl 9 (by decide) (by decide +kernel) rfl dX9_feed_68 ?_
  refine lv_iconst (v := 1) S.1 S.2.1 dX9_feed_71 (by decide) ?_
  refine lv_iadd S.1 S.2.1 dX9_feed_72 ?_
  refine lv_topi (fun x_15 ex_15 => ?_)
  have ex_15 : x_15 = 1 := by rw [ex_15]; decide
  subst ex_15
  refine b_put (v := .int 1) S iX9 tyX9 tyX9_ok nmX9 hK hP hD hS 0 rfl rfl 9 (by decide) (by decide +kernel) rfl rfl rfl (Nat.le_of_ble_eq_true rfl) dX9_feed_73 (fun H locs hP hD hS => ?_)
  have hP : va_P D vwCl [(y, .inr (9, [.int 0, .int 0, .ref y_lane, .ref y_many, .ref y_item, .ref y_city, .ref y_fresh, .int 0, .ref y_tape, .int 1, .int 0, .int 0, .int 0, .int 0, .int 0, .int 0, .int 0, .int 0, .int 0, .int 0, .ref y_cost, .ref y_away, .ref y_fee, .ref y_goesTo, .ref y_priceWas, .ref y_isKept, .ref y_kept, .ref y_trace, .int 0])), (y_tape, .inl (cI, 400, .inl f_14))] H := hP
  have hD : va_D A [(y, .inr (9, [.int 0, .int 0, .ref y_lane, .ref y_many, .ref y_item, .ref y_city, .ref y_fresh, .int 0, .ref y_tape, .int 1, .int 0, .int 0, .int 0, .int 0, .int 0, .int 0, .int 0, .int 0, .int 0, .int 0, .ref y_cost, .ref y_away, .ref y_fee, .ref y_goesTo, .ref y_priceWas, .ref y_isKept, .ref y_kept, .ref y_trace, .int 0])), (y_tape, .inl (cI, 400, .inl f_14))] := hD
  refine lv_iinc (v := 1) (lv' := [(4, .int 1), (0, .ref y), (1, .long wv), (3, .int 3)]) S.1 S.2.1 dX9_feed_76 hl (k := 0) rfl (by decide) (by decide) rfl (fun ls hl => ?_)
  refine lv_goto (tgt := 40) S.1 S.2.1 dX9_feed_79 (by decide) ?_
  refine lv_iload S.1 S.2.1 dX9_feed_40 (lv_at hl 0 rfl) ?_
  refine lv_if_lt (tgt := 82) S.1 S.2.1 dX9_feed_42 (by decide) (fun c_16 => absurd c_16 (by decide)) (fun c_16 => ?_)
  refine lv_aload_n S.1 S.2.1 dX9_feed_45 rfl (lv_at hl 1 rfl) ?_
  refine b_get (v := .ref y_tape) S iX9 hK hP 0 rfl rfl 8 (by decide) (by decide +kernel) rfl dX9_feed_46 ?_
  refine lv_aload_n S.1 S.2.1 dX9_feed_49 rfl (lv_at hl 1 rfl) ?_
  refine b_get (v := .int 1) S iX9 hK hP 0 rfl rfl 9 (by decide) (by decide +kernel) rfl dX9_feed_50 ?_
  refine lv_lload_n S.1 S.2.1 dX9_feed_53 rfl (lv_at hl 2 rfl) ?_
  refine lv_bipush (v := 8) S.1 S.2.1 dX9_feed_54 (by decide) ?_
  refine lv_iload S.1 S.2.1 dX9_feed_56 (lv_at hl 0 rfl) ?_
  refine lv_imul S.1 S.2.1 dX9_feed_58 ?_
  refine lv_topi (fun x_17 ex_17 => ?_)
  have ex_17 : x_17 = 8 := by rw [ex_17]; decide
  subst ex_17
  refine lv_lshr S.1 S.2.1 dX9_feed_59 rfl ?_
  refine lv_topl (fun z_18 ez_18 => ?_)
  refine lv_ldc2 (v := (255)) S.1 S.2.1 S.2.2.2.1 (S.2.2.2.2 (.constantLong RX9 84 (255)) (by decide +kernel)) dX9_feed_60 ?_
  refine lv_land S.1 S.2.1 dX9_feed_63 ?_
  refine lv_topl (fun z_19 ez_19 => ?_)
  refine lv_l2i S.1 S.2.1 dX9_feed_64 rfl ?_
  refine lv_topi (fun x_21 ex_21 => ?_)
  refine va_iast S.1 S.2.1 hK.1 hP hD hS 1 0 rfl rfl (by unfold vp_in; decide) dX9_feed_65 (fun H locs hP hD hS => ?_)
  have hP : va_P D vwCl [(y, .inr (9, [.int 0, .int 0, .ref y_lane, .ref y_many, .ref y_item, .ref y_city, .ref y_fresh, .int 0, .ref y_tape, .int 1, .int 0, .int 0, .int 0, .int 0, .int 0, .int 0, .int 0, .int 0, .int 0, .int 0, .ref y_cost, .ref y_away, .ref y_fee, .ref y_goesTo, .ref y_priceWas, .ref y_isKept, .ref y_kept, .ref y_trace, .int 0])), (y_tape, .inl (cI, 400, .inl (upd f_14 (1 : Int32).toNatClampNeg (x_21))))] H := hP
  have hD : va_D A [(y, .inr (9, [.int 0, .int 0, .ref y_lane, .ref y_many, .ref y_item, .ref y_city, .ref y_fresh, .int 0, .ref y_tape, .int 1, .int 0, .int 0, .int 0, .int 0, .int 0, .int 0, .int 0, .int 0, .int 0, .int 0, .ref y_cost, .ref y_away, .ref y_fee, .ref y_goesTo, .ref y_priceWas, .ref y_isKept, .ref y_kept, .ref y_trace, .int 0])), (y_tape, .inl (cI, 400, .inl (upd f_14 (1 : Int32).toNatClampNeg (x_21))))] := hD
  generalize (upd f_14 (1 : Int32).toNatClampNeg (x_21)) = f_22 at hP hD
  refine lv_aload_n S.1 S.2.1 dX9_feed_66 rfl (lv_at hl 1 rfl) ?_
  refine lv_dup S.1 S.2.1 dX9_feed_67 rfl ?_
  refine b_get (v := .int 1) S iX9 hK hP 0 rfl rfl 9 (by decide) (by decide +kernel) rfl dX9_feed_68 ?_
  refine lv_iconst (v := 1) S.1 S.2.1 dX9_feed_71 (by decide) ?_
  refine lv_iadd S.1 S.2.1 dX9_feed_72 ?_
  refine lv_topi (fun x_23 ex_23 => ?_)
  have ex_23 : x_23 = 2 := by rw [ex_23]; decide
  subst ex_23
  refine b_put (v := .int 2) S iX9 tyX9 tyX9_ok nmX9 hK hP hD hS 0 rfl rfl 9 (by decide) (by decide +kernel) rfl rfl rfl (Nat.le_of_ble_eq_true rfl) dX9_feed_73 (fun H locs hP hD hS => ?_)
  have hP : va_P D vwCl [(y, .inr (9, [.int 0, .int 0, .ref y_lane, .ref y_many, .ref y_item, .ref y_city, .ref y_fresh, .int 0, .ref y_tape, .int 2, .int 0, .int 0, .int 0, .int 0, .int 0, .int 0, .int 0, .int 0, .int 0, .int 0, .ref y_cost, .ref y_away, .ref y_fee, .ref y_goesTo, .ref y_priceWas, .ref y_isKept, .ref y_kept, .ref y_trace, .int 0])), (y_tape, .inl (cI, 400, .inl f_22))] H := hP
  have hD : va_D A [(y, .inr (9, [.int 0, .int 0, .ref y_lane, .ref y_many, .ref y_item, .ref y_city, .ref y_fresh, .int 0, .ref y_tape, .int 2, .int 0, .int 0, .int 0, .int 0, .int 0, .int 0, .int 0, .int 0, .int 0, .int 0, .ref y_cost, .ref y_away, .ref y_fee, .ref y_goesTo, .ref y_priceWas, .ref y_isKept, .ref y_kept, .ref y_trace, .int 0])), (y_tape, .inl (cI, 400, .inl f_22))] := hD
  refine lv_iinc (v := 0) (lv' := [(4, .int 0), (0, .ref y), (1, .long wv), (3, .int 3)]) S.1 S.2.1 dX9_feed_76 hl (k := 0) rfl (by decide) (by decide) rfl (fun ls hl => ?_)
  refine lv_goto (tgt := 40) S.1 S.2.1 dX9_feed_79 (by decide) ?_
  refine lv_iload S.1 S.2.1 dX9_feed_40 (lv_at hl 0 rfl) ?_
  refine lv_if_lt (tgt := 82) S.1 S.2.1 dX9_feed_42 (by decide) (fun c_24 => absurd c_24 (by decide)) (fun c_24 => ?_)
  refine lv_aload_n S.1 S.2.1 dX9_feed_45 rfl (lv_at hl 1 rfl) ?_
  refine b_get (v := .ref y_tape) S iX9 hK hP 0 rfl rfl 8 (by decide) (by decide +kernel) rfl dX9_feed_46 ?_
  refine lv_aload_n S.1 S.2.1 dX9_feed_49 rfl (lv_at hl 1 rfl) ?_
  refine b_get (v := .int 2) S iX9 hK hP 0 rfl rfl 9 (by decide) (by decide +kernel) rfl dX9_feed_50 ?_
  refine lv_lload_n S.1 S.2.1 dX9_feed_53 rfl (lv_at hl 2 rfl) ?_
  refine lv_bipush (v := 8) S.1 S.2.1 dX9_feed_54 (by decide) ?_
  refine lv_iload S.1 S.2.1 dX9_feed_56 (lv_at hl 0 rfl) ?_
  refine lv_imul S.1 S.2.1 dX9_feed_58 ?_
  refine lv_topi (fun x_25 ex_25 => ?_)
  have ex_25 : x_25 = 0 := by rw [ex_25]; decide
  subst ex_25
  refine lv_lshr S.1 S.2.1 dX9_feed_59 rfl ?_
  refine lv_topl (fun z_26 ez_26 => ?_)
  refine lv_ldc2 (v := (255)) S.1 S.2.1 S.2.2.2.1 (S.2.2.2.2 (.constantLong RX9 84 (255)) (by decide +kernel)) dX9_feed_60 ?_
  refine lv_land S.1 S.2.1 dX9_feed_63 ?_
  refine lv_topl (fun z_27 ez_27 => ?_)
  refine lv_l2i S.1 S.2.1 dX9_feed_64 rfl ?_
  refine lv_topi (fun x_29 ex_29 => ?_)
  refine va_iast S.1 S.2.1 hK.1 hP hD hS 1 0 rfl rfl (by unfold vp_in; decide) dX9_feed_65 (fun H locs hP hD hS => ?_)
  have hP : va_P D vwCl [(y, .inr (9, [.int 0, .int 0, .ref y_lane, .ref y_many, .ref y_item, .ref y_city, .ref y_fresh, .int 0, .ref y_tape, .int 2, .int 0, .int 0, .int 0, .int 0, .int 0, .int 0, .int 0, .int 0, .int 0, .int 0, .ref y_cost, .ref y_away, .ref y_fee, .ref y_goesTo, .ref y_priceWas, .ref y_isKept, .ref y_kept, .ref y_trace, .int 0])), (y_tape, .inl (cI, 400, .inl (upd f_22 (2 : Int32).toNatClampNeg (x_29))))] H := hP
  have hD : va_D A [(y, .inr (9, [.int 0, .int 0, .ref y_lane, .ref y_many, .ref y_item, .ref y_city, .ref y_fresh, .int 0, .ref y_tape, .int 2, .int 0, .int 0, .int 0, .int 0, .int 0, .int 0, .int 0, .int 0, .int 0, .int 0, .ref y_cost, .ref y_away, .ref y_fee, .ref y_goesTo, .ref y_priceWas, .ref y_isKept, .ref y_kept, .ref y_trace, .int 0])), (y_tape, .inl (cI, 400, .inl (upd f_22 (2 : Int32).toNatClampNeg (x_29))))] := hD
  generalize (upd f_22 (2 : Int32).toNatClampNeg (x_29)) = f_30 at hP hD
  refine lv_aload_n S.1 S.2.1 dX9_feed_66 rfl (lv_at hl 1 rfl) ?_
  refine lv_dup S.1 S.2.1 dX9_feed_67 rfl ?_
  refine b_get (v := .int 2) S iX9 hK hP 0 rfl rfl 9 (by decide) (by decide +kernel) rfl dX9_feed_68 ?_
  refine lv_iconst (v := 1) S.1 S.2.1 dX9_feed_71 (by decide) ?_
  refine lv_iadd S.1 S.2.1 dX9_feed_72 ?_
  refine lv_topi (fun x_31 ex_31 => ?_)
  have ex_31 : x_31 = 3 := by rw [ex_31]; decide
  subst ex_31
  refine b_put (v := .int 3) S iX9 tyX9 tyX9_ok nmX9 hK hP hD hS 0 rfl rfl 9 (by decide) (by decide +kernel) rfl rfl rfl (Nat.le_of_ble_eq_true rfl) dX9_feed_73 (fun H locs hP hD hS => ?_)
  have hP : va_P D vwCl [(y, .inr (9, [.int 0, .int 0, .ref y_lane, .ref y_many, .ref y_item, .ref y_city, .ref y_fresh, .int 0, .ref y_tape, .int 3, .int 0, .int 0, .int 0, .int 0, .int 0, .int 0, .int 0, .int 0, .int 0, .int 0, .ref y_cost, .ref y_away, .ref y_fee, .ref y_goesTo, .ref y_priceWas, .ref y_isKept, .ref y_kept, .ref y_trace, .int 0])), (y_tape, .inl (cI, 400, .inl f_30))] H := hP
  have hD : va_D A [(y, .inr (9, [.int 0, .int 0, .ref y_lane, .ref y_many, .ref y_item, .ref y_city, .ref y_fresh, .int 0, .ref y_tape, .int 3, .int 0, .int 0, .int 0, .int 0, .int 0, .int 0, .int 0, .int 0, .int 0, .int 0, .ref y_cost, .ref y_away, .ref y_fee, .ref y_goesTo, .ref y_priceWas, .ref y_isKept, .ref y_kept, .ref y_trace, .int 0])), (y_tape, .inl (cI, 400, .inl f_30))] := hD
  refine lv_iinc (v := (-1)) (lv' := [(4, .int (-1)), (0, .ref y), (1, .long wv), (3, .int 3)]) S.1 S.2.1 dX9_feed_76 hl (k := 0) rfl (by decide) (by decide) rfl (fun ls hl => ?_)
  refine lv_goto (tgt := 40) S.1 S.2.1 dX9_feed_79 (by decide) ?_
  refine lv_iload S.1 S.2.1 dX9_feed_40 (lv_at hl 0 rfl) ?_
  refine lv_if_lt (tgt := 82) S.1 S.2.1 dX9_feed_42 (by decide) (fun c_32 => ?_) (fun c_32 => absurd c_32 (by decide))
  refine lv_aload_n S.1 S.2.1 dX9_feed_82 rfl (lv_at hl 1 rfl) ?_
  refine b_get (v := .int 3) S iX9 hK hP 0 rfl rfl 9 (by decide) (by decide +kernel) rfl dX9_feed_83 ?_
  have hP := hP.sub (ws' := []) [] rfl
  have hD := hD.sub (ws' := []) [] (by decide) rfl
  exact b_iret S.1 S.2.1 X.2.1 X.2.2.1 hP hD hS ⟨rfl, rfl⟩ dX9_feed_86
set_option maxHeartbeats 4000000 in
set_option maxRecDepth 100000 in
theorem c_X9_feed_4 (l : Launch) (D : va_G) (cI cZ cC cS : ClassId) (sq sz : Nat) (y : Nat) (y_lane : Nat) (y_many : Nat) (y_item : Nat) (y_city : Nat) (y_fresh : Nat) (y_tape : Nat) (y_cost : Nat) (y_away : Nat) (y_fee : Nat) (y_goesTo : Nat) (y_priceWas : Nat) (y_isKept : Nat) (y_kept : Nat) (y_trace : Nat) (wv : Int64) (f : Nat → Int32) : mI l yX9_feed wsX9_feed 1 25 D (tyW cI cZ cC cS) sq [(y, .inr (9, [.int 0, .int 0, .ref y_lane, .ref y_many, .ref y_item, .ref y_city, .ref y_fresh, .int 0, .ref y_tape, .int 0, .int 0, .int 0, .int 0, .int 0, .int 0, .int 0, .int 0, .int 0, .int 0, .int 0, .ref y_cost, .ref y_away, .ref y_fee, .ref y_goesTo, .ref y_priceWas, .ref y_isKept, .ref y_kept, .ref y_trace, .int 0])), (y_tape, .inl (cI, 400, .inl f))] sz [.ref y, .long wv, .int 4] (fun r w => r = 4 ∧ w = []) := by
  refine b_metI (cc := cX9_feed) (maxL := 5) (ret := (some .int)) (by decide) rfl (Nat.le_of_ble_eq_true rfl) ?_
  intro p e s m below meth c ls A H X hsz hP hK hD hA hS hl
  have S : CallFix p m c cX9_feed 5 s ([.ref y, .long wv, .int 4] : List Value).toArray wsX9_feed RX9 := X.1
  have hl : lv_has ls 5 [(0, .ref y), (1, .long wv), (3, .int 4)] := hl
  have iX9 := jX9_feed_X9
  refine lv_aload_n S.1 S.2.1 dX9_feed_0 rfl (lv_at hl 0 rfl) ?_
  refine lv_iconst (v := 0) S.1 S.2.1 dX9_feed_1 (by decide) ?_
  refine b_put (v := .int 0) S iX9 tyX9 tyX9_ok nmX9 hK hP hD hS 0 rfl rfl 0 (by decide) (by decide +kernel) rfl rfl rfl (Nat.le_of_ble_eq_true rfl) dX9_feed_2 (fun H locs hP hD hS => ?_)
  have hP : va_P D vwCl [(y, .inr (9, [.int 0, .int 0, .ref y_lane, .ref y_many, .ref y_item, .ref y_city, .ref y_fresh, .int 0, .ref y_tape, .int 0, .int 0, .int 0, .int 0, .int 0, .int 0, .int 0, .int 0, .int 0, .int 0, .int 0, .ref y_cost, .ref y_away, .ref y_fee, .ref y_goesTo, .ref y_priceWas, .ref y_isKept, .ref y_kept, .ref y_trace, .int 0])), (y_tape, .inl (cI, 400, .inl f))] H := hP
  have hD : va_D A [(y, .inr (9, [.int 0, .int 0, .ref y_lane, .ref y_many, .ref y_item, .ref y_city, .ref y_fresh, .int 0, .ref y_tape, .int 0, .int 0, .int 0, .int 0, .int 0, .int 0, .int 0, .int 0, .int 0, .int 0, .int 0, .ref y_cost, .ref y_away, .ref y_fee, .ref y_goesTo, .ref y_priceWas, .ref y_isKept, .ref y_kept, .ref y_trace, .int 0])), (y_tape, .inl (cI, 400, .inl f))] := hD
  refine lv_iload_n S.1 S.2.1 dX9_feed_5 rfl (lv_at hl 2 rfl) ?_
  refine lv_i2l (v := (4)) S.1 S.2.1 dX9_feed_6 (by decide) ?_
  refine lv_lconst (v := 1) S.1 S.2.1 dX9_feed_7 (by decide) ?_
  refine lv_ldc2 (v := (8)) S.1 S.2.1 S.2.2.2.1 (S.2.2.2.2 (.constantLong RX9 78 (8)) (by decide +kernel)) dX9_feed_8 ?_
  refine b_ai (wr := [(y, .inr (9, [.int 0, .int 0, .ref y_lane, .ref y_many, .ref y_item, .ref y_city, .ref y_fresh, .int 0, .ref y_tape, .int 0, .int 0, .int 0, .int 0, .int 0, .int 0, .int 0, .int 0, .int 0, .int 0, .int 0, .ref y_cost, .ref y_away, .ref y_fee, .ref y_goesTo, .ref y_priceWas, .ref y_isKept, .ref y_kept, .ref y_trace, .int 0])), (y_tape, .inl (cI, 400, .inl f))]) (b_runS (As := [.long 4, .long 1, .long 8]) (c_X9_in_t l D cI cZ cC cS sq H.size 4 1 8 (by decide) (by decide)) S gX9_feed_X9_in rfl hdS_X9_in ⟨Nat.le_of_ble_eq_true rfl, Nat.le_of_ble_eq_true rfl⟩ ⟨Nat.le_of_ble_eq_true rfl, Nat.le_of_ble_eq_true rfl⟩ hK hP hD [] rfl (by decide) rfl hl.1 rfl (Nat.le_of_ble_eq_true rfl) dX9_feed_11) hP hD hS hA [] [0, 1] rfl rfl (by decide) (by decide) (fun r_1 w_2 H locs hw_3 hP hD hS => ?_)
  obtain ⟨rfl, rfl⟩ := hw_3
  have hP : va_P D vwCl [(y, .inr (9, [.int 0, .int 0, .ref y_lane, .ref y_many, .ref y_item, .ref y_city, .ref y_fresh, .int 0, .ref y_tape, .int 0, .int 0, .int 0, .int 0, .int 0, .int 0, .int 0, .int 0, .int 0, .int 0, .int 0, .ref y_cost, .ref y_away, .ref y_fee, .ref y_goesTo, .ref y_priceWas, .ref y_isKept, .ref y_kept, .ref y_trace, .int 0])), (y_tape, .inl (cI, 400, .inl f))] H := hP
  have hD : va_D A [(y, .inr (9, [.int 0, .int 0, .ref y_lane, .ref y_many, .ref y_item, .ref y_city, .ref y_fresh, .int 0, .ref y_tape, .int 0, .int 0, .int 0, .int 0, .int 0, .int 0, .int 0, .int 0, .int 0, .int 0, .int 0, .ref y_cost, .ref y_away, .ref y_fee, .ref y_goesTo, .ref y_priceWas, .ref y_isKept, .ref y_kept, .ref y_trace, .int 0])), (y_tape, .inl (cI, 400, .inl f))] := hD
  refine lv_if_ne (tgt := 20) S.1 S.2.1 dX9_feed_14 (by decide) (fun c_4 => ?_) (fun c_4 => absurd c_4 (by decide))
  refine lv_aload_n S.1 S.2.1 dX9_feed_20 rfl (lv_at hl 0 rfl) ?_
  refine b_get (v := .int 0) S iX9 hK hP 0 rfl rfl 9 (by decide) (by decide +kernel) rfl dX9_feed_21 ?_
  refine lv_iload_n S.1 S.2.1 dX9_feed_24 rfl (lv_at hl 2 rfl) ?_
  refine lv_iadd S.1 S.2.1 dX9_feed_25 ?_
  refine lv_topi (fun x_5 ex_5 => ?_)
  have ex_5 : x_5 = 4 := by rw [ex_5]; decide
  subst ex_5
  refine lv_sipush (v := 400) S.1 S.2.1 dX9_feed_26 (by decide) ?_
  refine lv_icmp_le (tgt := 35) S.1 S.2.1 dX9_feed_29 (by decide) (fun c_6 => ?_) (fun c_6 => absurd c_6 (by decide))
  refine lv_iload_n S.1 S.2.1 dX9_feed_35 rfl (lv_at hl 2 rfl) ?_
  refine lv_iconst (v := 1) S.1 S.2.1 dX9_feed_36 (by decide) ?_
  refine lv_isub S.1 S.2.1 dX9_feed_37 ?_
  refine lv_topi (fun x_7 ex_7 => ?_)
  have ex_7 : x_7 = 3 := by rw [ex_7]; decide
  subst ex_7
  refine lv_istore (lv' := [(4, .int 3), (0, .ref y), (1, .long wv), (3, .int 4)]) S.1 S.2.1 dX9_feed_38 hl (by decide) rfl (fun ls hl => ?_)
  refine lv_iload S.1 S.2.1 dX9_feed_40 (lv_at hl 0 rfl) ?_
  refine lv_if_lt (tgt := 82) S.1 S.2.1 dX9_feed_42 (by decide) (fun c_8 => absurd c_8 (by decide)) (fun c_8 => ?_)
  refine lv_aload_n S.1 S.2.1 dX9_feed_45 rfl (lv_at hl 1 rfl) ?_
  refine b_get (v := .ref y_tape) S iX9 hK hP 0 rfl rfl 8 (by decide) (by decide +kernel) rfl dX9_feed_46 ?_
  refine lv_aload_n S.1 S.2.1 dX9_feed_49 rfl (lv_at hl 1 rfl) ?_
  refine b_get (v := .int 0) S iX9 hK hP 0 rfl rfl 9 (by decide) (by decide +kernel) rfl dX9_feed_50 ?_
  refine lv_lload_n S.1 S.2.1 dX9_feed_53 rfl (lv_at hl 2 rfl) ?_
  refine lv_bipush (v := 8) S.1 S.2.1 dX9_feed_54 (by decide) ?_
  refine lv_iload S.1 S.2.1 dX9_feed_56 (lv_at hl 0 rfl) ?_
  refine lv_imul S.1 S.2.1 dX9_feed_58 ?_
  refine lv_topi (fun x_9 ex_9 => ?_)
  have ex_9 : x_9 = 24 := by rw [ex_9]; decide
  subst ex_9
  refine lv_lshr S.1 S.2.1 dX9_feed_59 rfl ?_
  refine lv_topl (fun z_10 ez_10 => ?_)
  refine lv_ldc2 (v := (255)) S.1 S.2.1 S.2.2.2.1 (S.2.2.2.2 (.constantLong RX9 84 (255)) (by decide +kernel)) dX9_feed_60 ?_
  refine lv_land S.1 S.2.1 dX9_feed_63 ?_
  refine lv_topl (fun z_11 ez_11 => ?_)
  refine lv_l2i S.1 S.2.1 dX9_feed_64 rfl ?_
  refine lv_topi (fun x_13 ex_13 => ?_)
  refine va_iast S.1 S.2.1 hK.1 hP hD hS 1 0 rfl rfl (by unfold vp_in; decide) dX9_feed_65 (fun H locs hP hD hS => ?_)
  have hP : va_P D vwCl [(y, .inr (9, [.int 0, .int 0, .ref y_lane, .ref y_many, .ref y_item, .ref y_city, .ref y_fresh, .int 0, .ref y_tape, .int 0, .int 0, .int 0, .int 0, .int 0, .int 0, .int 0, .int 0, .int 0, .int 0, .int 0, .ref y_cost, .ref y_away, .ref y_fee, .ref y_goesTo, .ref y_priceWas, .ref y_isKept, .ref y_kept, .ref y_trace, .int 0])), (y_tape, .inl (cI, 400, .inl (upd f (0 : Int32).toNatClampNeg (x_13))))] H := hP
  have hD : va_D A [(y, .inr (9, [.int 0, .int 0, .ref y_lane, .ref y_many, .ref y_item, .ref y_city, .ref y_fresh, .int 0, .ref y_tape, .int 0, .int 0, .int 0, .int 0, .int 0, .int 0, .int 0, .int 0, .int 0, .int 0, .int 0, .ref y_cost, .ref y_away, .ref y_fee, .ref y_goesTo, .ref y_priceWas, .ref y_isKept, .ref y_kept, .ref y_trace, .int 0])), (y_tape, .inl (cI, 400, .inl (upd f (0 : Int32).toNatClampNeg (x_13))))] := hD
  generalize (upd f (0 : Int32).toNatClampNeg (x_13)) = f_14 at hP hD
  refine lv_aload_n S.1 S.2.1 dX9_feed_66 rfl (lv_at hl 1 rfl) ?_
  refine lv_dup S.1 S.2.1 dX9_feed_67 rfl ?_
  refine b_get (v := .int 0) S iX9 hK hP 0 rfl rfl 9 (by decide) (by decide +kernel) rfl dX9_feed_68 ?_
  refine lv_iconst (v := 1) S.1 S.2.1 dX9_feed_71 (by decide) ?_
  refine lv_iadd S.1 S.2.1 dX9_feed_72 ?_
  refine lv_topi (fun x_15 ex_15 => ?_)
  have ex_15 : x_15 = 1 := by rw [ex_15]; decide
  subst ex_15
  refine b_put (v := .int 1) S iX9 tyX9 tyX9_ok nmX9 hK hP hD hS 0 rfl rfl 9 (by decide) (by decide +kernel) rfl rfl rfl (Nat.le_of_ble_eq_true rfl) dX9_feed_73 (fun H locs hP hD hS => ?_)
  have hP : va_P D vwCl [(y, .inr (9, [.int 0, .int 0, .ref y_lane, .ref y_many, .ref y_item, .ref y_city, .ref y_fresh, .int 0, .ref y_tape, .int 1, .int 0, .int 0, .int 0, .int 0, .int 0, .int 0, .int 0, .int 0, .int 0, .int 0, .ref y_cost, .ref y_away, .ref y_fee, .ref y_goesTo, .ref y_priceWas, .ref y_isKept, .ref y_kept, .ref y_trace, .int 0])), (y_tape, .inl (cI, 400, .inl f_14))] H := hP
  have hD : va_D A [(y, .inr (9, [.int 0, .int 0, .ref y_lane, .ref y_many, .ref y_item, .ref y_city, .ref y_fresh, .int 0, .ref y_tape, .int 1, .int 0, .int 0, .int 0, .int 0, .int 0, .int 0, .int 0, .int 0, .int 0, .int 0, .ref y_cost, .ref y_away, .ref y_fee, .ref y_goesTo, .ref y_priceWas, .ref y_isKept, .ref y_kept, .ref y_trace, .int 0])), (y_tape, .inl (cI, 400, .inl f_14))] := hD
  refine lv_iinc (v := 2) (lv' := [(4, .int 2), (0, .ref y), (1, .long wv), (3, .int 4)]) S.1 S.2.1 dX9_feed_76 hl (k := 0) rfl (by decide) (by decide) rfl (fun ls hl => ?_)
  refine lv_goto (tgt := 40) S.1 S.2.1 dX9_feed_79 (by decide) ?_
  refine lv_iload S.1 S.2.1 dX9_feed_40 (lv_at hl 0 rfl) ?_
  refine lv_if_lt (tgt := 82) S.1 S.2.1 dX9_feed_42 (by decide) (fun c_16 => absurd c_16 (by decide)) (fun c_16 => ?_)
  refine lv_aload_n S.1 S.2.1 dX9_feed_45 rfl (lv_at hl 1 rfl) ?_
  refine b_get (v := .ref y_tape) S iX9 hK hP 0 rfl rfl 8 (by decide) (by decide +kernel) rfl dX9_feed_46 ?_
  refine lv_aload_n S.1 S.2.1 dX9_feed_49 rfl (lv_at hl 1 rfl) ?_
  refine b_get (v := .int 1) S iX9 hK hP 0 rfl rfl 9 (by decide) (by decide +kernel) rfl dX9_feed_50 ?_
  refine lv_lload_n S.1 S.2.1 dX9_feed_53 rfl (lv_at hl 2 rfl) ?_
  refine lv_bipush (v := 8) S.1 S.2.1 dX9_feed_54 (by decide) ?_
  refine lv_iload S.1 S.2.1 dX9_feed_56 (lv_at hl 0 rfl) ?_
  refine lv_imul S.1 S.2.1 dX9_feed_58 ?_
  refine lv_topi (fun x_17 ex_17 => ?_)
  have ex_17 : x_17 = 16 := by rw [ex_17]; decide
  subst ex_17
  refine lv_lshr S.1 S.2.1 dX9_feed_59 rfl ?_
  refine lv_topl (fun z_18 ez_18 => ?_)
  refine lv_ldc2 (v := (255)) S.1 S.2.1 S.2.2.2.1 (S.2.2.2.2 (.constantLong RX9 84 (255)) (by decide +kernel)) dX9_feed_60 ?_
  refine lv_land S.1 S.2.1 dX9_feed_63 ?_
  refine lv_topl (fun z_19 ez_19 => ?_)
  refine lv_l2i S.1 S.2.1 dX9_feed_64 rfl ?_
  refine lv_topi (fun x_21 ex_21 => ?_)
  refine va_iast S.1 S.2.1 hK.1 hP hD hS 1 0 rfl rfl (by unfold vp_in; decide) dX9_feed_65 (fun H locs hP hD hS => ?_)
  have hP : va_P D vwCl [(y, .inr (9, [.int 0, .int 0, .ref y_lane, .ref y_many, .ref y_item, .ref y_city, .ref y_fresh, .int 0, .ref y_tape, .int 1, .int 0, .int 0, .int 0, .int 0, .int 0, .int 0, .int 0, .int 0, .int 0, .int 0, .ref y_cost, .ref y_away, .ref y_fee, .ref y_goesTo, .ref y_priceWas, .ref y_isKept, .ref y_kept, .ref y_trace, .int 0])), (y_tape, .inl (cI, 400, .inl (upd f_14 (1 : Int32).toNatClampNeg (x_21))))] H := hP
  have hD : va_D A [(y, .inr (9, [.int 0, .int 0, .ref y_lane, .ref y_many, .ref y_item, .ref y_city, .ref y_fresh, .int 0, .ref y_tape, .int 1, .int 0, .int 0, .int 0, .int 0, .int 0, .int 0, .int 0, .int 0, .int 0, .int 0, .ref y_cost, .ref y_away, .ref y_fee, .ref y_goesTo, .ref y_priceWas, .ref y_isKept, .ref y_kept, .ref y_trace, .int 0])), (y_tape, .inl (cI, 400, .inl (upd f_14 (1 : Int32).toNatClampNeg (x_21))))] := hD
  generalize (upd f_14 (1 : Int32).toNatClampNeg (x_21)) = f_22 at hP hD
  refine lv_aload_n S.1 S.2.1 dX9_feed_66 rfl (lv_at hl 1 rfl) ?_
  refine lv_dup S.1 S.2.1 dX9_feed_67 rfl ?_
  refine b_get (v := .int 1) S iX9 hK hP 0 rfl rfl 9 (by decide) (by decide +kernel) rfl dX9_feed_68 ?_
  refine lv_iconst (v := 1) S.1 S.2.1 dX9_feed_71 (by decide) ?_
  refine lv_iadd S.1 S.2.1 dX9_feed_72 ?_
  refine lv_topi (fun x_23 ex_23 => ?_)
  have ex_23 : x_23 = 2 := by rw [ex_23]; decide
  subst ex_23
  refine b_put (v := .int 2) S iX9 tyX9 tyX9_ok nmX9 hK hP hD hS 0 rfl rfl 9 (by decide) (by decide +kernel) rfl rfl rfl (Nat.le_of_ble_eq_true rfl) dX9_feed_73 (fun H locs hP hD hS => ?_)
  have hP : va_P D vwCl [(y, .inr (9, [.int 0, .int 0, .ref y_lane, .ref y_many, .ref y_item, .ref y_city, .ref y_fresh, .int 0, .ref y_tape, .int 2, .int 0, .int 0, .int 0, .int 0, .int 0, .int 0, .int 0, .int 0, .int 0, .int 0, .ref y_cost, .ref y_away, .ref y_fee, .ref y_goesTo, .ref y_priceWas, .ref y_isKept, .ref y_kept, .ref y_trace, .int 0])), (y_tape, .inl (cI, 400, .inl f_22))] H := hP
  have hD : va_D A [(y, .inr (9, [.int 0, .int 0, .ref y_lane, .ref y_many, .ref y_item, .ref y_city, .ref y_fresh, .int 0, .ref y_tape, .int 2, .int 0, .int 0, .int 0, .int 0, .int 0, .int 0, .int 0, .int 0, .int 0, .int 0, .ref y_cost, .ref y_away, .ref y_fee, .ref y_goesTo, .ref y_priceWas, .ref y_isKept, .ref y_kept, .ref y_trace, .int 0])), (y_tape, .inl (cI, 400, .inl f_22))] := hD
  refine lv_iinc (v := 1) (lv' := [(4, .int 1), (0, .ref y), (1, .long wv), (3, .int 4)]) S.1 S.2.1 dX9_feed_76 hl (k := 0) rfl (by decide) (by decide) rfl (fun ls hl => ?_)
  refine lv_goto (tgt := 40) S.1 S.2.1 dX9_feed_79 (by decide) ?_
  refine lv_iload S.1 S.2.1 dX9_feed_40 (lv_at hl 0 rfl) ?_
  refine lv_if_lt (tgt := 82) S.1 S.2.1 dX9_feed_42 (by decide) (fun c_24 => absurd c_24 (by decide)) (fun c_24 => ?_)
  refine lv_aload_n S.1 S.2.1 dX9_feed_45 rfl (lv_at hl 1 rfl) ?_
  refine b_get (v := .ref y_tape) S iX9 hK hP 0 rfl rfl 8 (by decide) (by decide +kernel) rfl dX9_feed_46 ?_
  refine lv_aload_n S.1 S.2.1 dX9_feed_49 rfl (lv_at hl 1 rfl) ?_
  refine b_get (v := .int 2) S iX9 hK hP 0 rfl rfl 9 (by decide) (by decide +kernel) rfl dX9_feed_50 ?_
  refine lv_lload_n S.1 S.2.1 dX9_feed_53 rfl (lv_at hl 2 rfl) ?_
  refine lv_bipush (v := 8) S.1 S.2.1 dX9_feed_54 (by decide) ?_
  refine lv_iload S.1 S.2.1 dX9_feed_56 (lv_at hl 0 rfl) ?_
  refine lv_imul S.1 S.2.1 dX9_feed_58 ?_
  refine lv_topi (fun x_25 ex_25 => ?_)
  have ex_25 : x_25 = 8 := by rw [ex_25]; decide
  subst ex_25
  refine lv_lshr S.1 S.2.1 dX9_feed_59 rfl ?_
  refine lv_topl (fun z_26 ez_26 => ?_)
  refine lv_ldc2 (v := (255)) S.1 S.2.1 S.2.2.2.1 (S.2.2.2.2 (.constantLong RX9 84 (255)) (by decide +kernel)) dX9_feed_60 ?_
  refine lv_land S.1 S.2.1 dX9_feed_63 ?_
  refine lv_topl (fun z_27 ez_27 => ?_)
  refine lv_l2i S.1 S.2.1 dX9_feed_64 rfl ?_
  refine lv_topi (fun x_29 ex_29 => ?_)
  refine va_iast S.1 S.2.1 hK.1 hP hD hS 1 0 rfl rfl (by unfold vp_in; decide) dX9_feed_65 (fun H locs hP hD hS => ?_)
  have hP : va_P D vwCl [(y, .inr (9, [.int 0, .int 0, .ref y_lane, .ref y_many, .ref y_item, .ref y_city, .ref y_fresh, .int 0, .ref y_tape, .int 2, .int 0, .int 0, .int 0, .int 0, .int 0, .int 0, .int 0, .int 0, .int 0, .int 0, .ref y_cost, .ref y_away, .ref y_fee, .ref y_goesTo, .ref y_priceWas, .ref y_isKept, .ref y_kept, .ref y_trace, .int 0])), (y_tape, .inl (cI, 400, .inl (upd f_22 (2 : Int32).toNatClampNeg (x_29))))] H := hP
  have hD : va_D A [(y, .inr (9, [.int 0, .int 0, .ref y_lane, .ref y_many, .ref y_item, .ref y_city, .ref y_fresh, .int 0, .ref y_tape, .int 2, .int 0, .int 0, .int 0, .int 0, .int 0, .int 0, .int 0, .int 0, .int 0, .int 0, .ref y_cost, .ref y_away, .ref y_fee, .ref y_goesTo, .ref y_priceWas, .ref y_isKept, .ref y_kept, .ref y_trace, .int 0])), (y_tape, .inl (cI, 400, .inl (upd f_22 (2 : Int32).toNatClampNeg (x_29))))] := hD
  generalize (upd f_22 (2 : Int32).toNatClampNeg (x_29)) = f_30 at hP hD
  refine lv_aload_n S.1 S.2.1 dX9_feed_66 rfl (lv_at hl 1 rfl) ?_
  refine lv_dup S.1 S.2.1 dX9_feed_67 rfl ?_
  refine b_get (v := .int 2) S iX9 hK hP 0 rfl rfl 9 (by decide) (by decide +kernel) rfl dX9_feed_68 ?_
  refine lv_iconst (v := 1) S.1 S.2.1 dX9_feed_71 (by decide) ?_
  refine lv_iadd S.1 S.2.1 dX9_feed_72 ?_
  refine lv_topi (fun x_31 ex_31 => ?_)
  have ex_31 : x_31 = 3 := by rw [ex_31]; decide
  subst ex_31
  refine b_put (v := .int 3) S iX9 tyX9 tyX9_ok nmX9 hK hP hD hS 0 rfl rfl 9 (by decide) (by decide +kernel) rfl rfl rfl (Nat.le_of_ble_eq_true rfl) dX9_feed_73 (fun H locs hP hD hS => ?_)
  have hP : va_P D vwCl [(y, .inr (9, [.int 0, .int 0, .ref y_lane, .ref y_many, .ref y_item, .ref y_city, .ref y_fresh, .int 0, .ref y_tape, .int 3, .int 0, .int 0, .int 0, .int 0, .int 0, .int 0, .int 0, .int 0, .int 0, .int 0, .ref y_cost, .ref y_away, .ref y_fee, .ref y_goesTo, .ref y_priceWas, .ref y_isKept, .ref y_kept, .ref y_trace, .int 0])), (y_tape, .inl (cI, 400, .inl f_30))] H := hP
  have hD : va_D A [(y, .inr (9, [.int 0, .int 0, .ref y_lane, .ref y_many, .ref y_item, .ref y_city, .ref y_fresh, .int 0, .ref y_tape, .int 3, .int 0, .int 0, .int 0, .int 0, .int 0, .int 0, .int 0, .int 0, .int 0, .int 0, .ref y_cost, .ref y_away, .ref y_fee, .ref y_goesTo, .ref y_priceWas, .ref y_isKept, .ref y_kept, .ref y_trace, .int 0])), (y_tape, .inl (cI, 400, .inl f_30))] := hD
  refine lv_iinc (v := 0) (lv' := [(4, .int 0), (0, .ref y), (1, .long wv), (3, .int 4)]) S.1 S.2.1 dX9_feed_76 hl (k := 0) rfl (by decide) (by decide) rfl (fun ls hl => ?_)
  refine lv_goto (tgt := 40) S.1 S.2.1 dX9_feed_79 (by decide) ?_
  refine lv_iload S.1 S.2.1 dX9_feed_40 (lv_at hl 0 rfl) ?_
  refine lv_if_lt (tgt := 82) S.1 S.2.1 dX9_feed_42 (by decide) (fun c_32 => absurd c_32 (by decide)) (fun c_32 => ?_)
  refine lv_aload_n S.1 S.2.1 dX9_feed_45 rfl (lv_at hl 1 rfl) ?_
  refine b_get (v := .ref y_tape) S iX9 hK hP 0 rfl rfl 8 (by decide) (by decide +kernel) rfl dX9_feed_46 ?_
  refine lv_aload_n S.1 S.2.1 dX9_feed_49 rfl (lv_at hl 1 rfl) ?_
  refine b_get (v := .int 3) S iX9 hK hP 0 rfl rfl 9 (by decide) (by decide +kernel) rfl dX9_feed_50 ?_
  refine lv_lload_n S.1 S.2.1 dX9_feed_53 rfl (lv_at hl 2 rfl) ?_
  refine lv_bipush (v := 8) S.1 S.2.1 dX9_feed_54 (by decide) ?_
  refine lv_iload S.1 S.2.1 dX9_feed_56 (lv_at hl 0 rfl) ?_
  refine lv_imul S.1 S.2.1 dX9_feed_58 ?_
  refine lv_topi (fun x_33 ex_33 => ?_)
  have ex_33 : x_33 = 0 := by rw [ex_33]; decide
  subst ex_33
  refine lv_lshr S.1 S.2.1 dX9_feed_59 rfl ?_
  refine lv_topl (fun z_34 ez_34 => ?_)
  refine lv_ldc2 (v := (255)) S.1 S.2.1 S.2.2.2.1 (S.2.2.2.2 (.constantLong RX9 84 (255)) (by decide +kernel)) dX9_feed_60 ?_
  refine lv_land S.1 S.2.1 dX9_feed_63 ?_
  refine lv_topl (fun z_35 ez_35 => ?_)
  refine lv_l2i S.1 S.2.1 dX9_feed_64 rfl ?_
  refine lv_topi (fun x_37 ex_37 => ?_)
  refine va_iast S.1 S.2.1 hK.1 hP hD hS 1 0 rfl rfl (by unfold vp_in; decide) dX9_feed_65 (fun H locs hP hD hS => ?_)
  have hP : va_P D vwCl [(y, .inr (9, [.int 0, .int 0, .ref y_lane, .ref y_many, .ref y_item, .ref y_city, .ref y_fresh, .int 0, .ref y_tape, .int 3, .int 0, .int 0, .int 0, .int 0, .int 0, .int 0, .int 0, .int 0, .int 0, .int 0, .ref y_cost, .ref y_away, .ref y_fee, .ref y_goesTo, .ref y_priceWas, .ref y_isKept, .ref y_kept, .ref y_trace, .int 0])), (y_tape, .inl (cI, 400, .inl (upd f_30 (3 : Int32).toNatClampNeg (x_37))))] H := hP
  have hD : va_D A [(y, .inr (9, [.int 0, .int 0, .ref y_lane, .ref y_many, .ref y_item, .ref y_city, .ref y_fresh, .int 0, .ref y_tape, .int 3, .int 0, .int 0, .int 0, .int 0, .int 0, .int 0, .int 0, .int 0, .int 0, .int 0, .ref y_cost, .ref y_away, .ref y_fee, .ref y_goesTo, .ref y_priceWas, .ref y_isKept, .ref y_kept, .ref y_trace, .int 0])), (y_tape, .inl (cI, 400, .inl (upd f_30 (3 : Int32).toNatClampNeg (x_37))))] := hD
  generalize (upd f_30 (3 : Int32).toNatClampNeg (x_37)) = f_38 at hP hD
  refine lv_aload_n S.1 S.2.1 dX9_feed_66 rfl (lv_at hl 1 rfl) ?_
  refine lv_dup S.1 S.2.1 dX9_feed_67 rfl ?_
  refine b_get (v := .int 3) S iX9 hK hP 0 rfl rfl 9 (by decide) (by decide +kernel) rfl dX9_feed_68 ?_
  refine lv_iconst (v := 1) S.1 S.2.1 dX9_feed_71 (by decide) ?_
  refine lv_iadd S.1 S.2.1 dX9_feed_72 ?_
  refine lv_topi (fun x_39 ex_39 => ?_)
  have ex_39 : x_39 = 4 := by rw [ex_39]; decide
  subst ex_39
  refine b_put (v := .int 4) S iX9 tyX9 tyX9_ok nmX9 hK hP hD hS 0 rfl rfl 9 (by decide) (by decide +kernel) rfl rfl rfl (Nat.le_of_ble_eq_true rfl) dX9_feed_73 (fun H locs hP hD hS => ?_)
  have hP : va_P D vwCl [(y, .inr (9, [.int 0, .int 0, .ref y_lane, .ref y_many, .ref y_item, .ref y_city, .ref y_fresh, .int 0, .ref y_tape, .int 4, .int 0, .int 0, .int 0, .int 0, .int 0, .int 0, .int 0, .int 0, .int 0, .int 0, .ref y_cost, .ref y_away, .ref y_fee, .ref y_goesTo, .ref y_priceWas, .ref y_isKept, .ref y_kept, .ref y_trace, .int 0])), (y_tape, .inl (cI, 400, .inl f_38))] H := hP
  have hD : va_D A [(y, .inr (9, [.int 0, .int 0, .ref y_lane, .ref y_many, .ref y_item, .ref y_city, .ref y_fresh, .int 0, .ref y_tape, .int 4, .int 0, .int 0, .int 0, .int 0, .int 0, .int 0, .int 0, .int 0, .int 0, .int 0, .ref y_cost, .ref y_away, .ref y_fee, .ref y_goesTo, .ref y_priceWas, .ref y_isKept, .ref y_kept, .ref y_trace, .int 0])), (y_tape, .inl (cI, 400, .inl f_38))] := hD
  refine lv_iinc (v := (-1)) (lv' := [(4, .int (-1)), (0, .ref y), (1, .long wv), (3, .int 4)]) S.1 S.2.1 dX9_feed_76 hl (k := 0) rfl (by decide) (by decide) rfl (fun ls hl => ?_)
  refine lv_goto (tgt := 40) S.1 S.2.1 dX9_feed_79 (by decide) ?_
  refine lv_iload S.1 S.2.1 dX9_feed_40 (lv_at hl 0 rfl) ?_
  refine lv_if_lt (tgt := 82) S.1 S.2.1 dX9_feed_42 (by decide) (fun c_40 => ?_) (fun c_40 => absurd c_40 (by decide))
  refine lv_aload_n S.1 S.2.1 dX9_feed_82 rfl (lv_at hl 1 rfl) ?_
  refine b_get (v := .int 4) S iX9 hK hP 0 rfl rfl 9 (by decide) (by decide +kernel) rfl dX9_feed_83 ?_
  have hP := hP.sub (ws' := []) [] rfl
  have hD := hD.sub (ws' := []) [] (by decide) rfl
  exact b_iret S.1 S.2.1 X.2.1 X.2.2.1 hP hD hS ⟨rfl, rfl⟩ dX9_feed_86
set_option maxHeartbeats 4000000 in
set_option maxRecDepth 100000 in
theorem c_X9_feed_5 (l : Launch) (D : va_G) (cI cZ cC cS : ClassId) (sq sz : Nat) (y : Nat) (y_lane : Nat) (y_many : Nat) (y_item : Nat) (y_city : Nat) (y_fresh : Nat) (y_tape : Nat) (y_cost : Nat) (y_away : Nat) (y_fee : Nat) (y_goesTo : Nat) (y_priceWas : Nat) (y_isKept : Nat) (y_kept : Nat) (y_trace : Nat) (wv : Int64) (f : Nat → Int32) : mI l yX9_feed wsX9_feed 1 25 D (tyW cI cZ cC cS) sq [(y, .inr (9, [.int 0, .int 0, .ref y_lane, .ref y_many, .ref y_item, .ref y_city, .ref y_fresh, .int 0, .ref y_tape, .int 0, .int 0, .int 0, .int 0, .int 0, .int 0, .int 0, .int 0, .int 0, .int 0, .int 0, .ref y_cost, .ref y_away, .ref y_fee, .ref y_goesTo, .ref y_priceWas, .ref y_isKept, .ref y_kept, .ref y_trace, .int 0])), (y_tape, .inl (cI, 400, .inl f))] sz [.ref y, .long wv, .int 5] (fun r w => r = 5 ∧ w = []) := by
  refine b_metI (cc := cX9_feed) (maxL := 5) (ret := (some .int)) (by decide) rfl (Nat.le_of_ble_eq_true rfl) ?_
  intro p e s m below meth c ls A H X hsz hP hK hD hA hS hl
  have S : CallFix p m c cX9_feed 5 s ([.ref y, .long wv, .int 5] : List Value).toArray wsX9_feed RX9 := X.1
  have hl : lv_has ls 5 [(0, .ref y), (1, .long wv), (3, .int 5)] := hl
  have iX9 := jX9_feed_X9
  refine lv_aload_n S.1 S.2.1 dX9_feed_0 rfl (lv_at hl 0 rfl) ?_
  refine lv_iconst (v := 0) S.1 S.2.1 dX9_feed_1 (by decide) ?_
  refine b_put (v := .int 0) S iX9 tyX9 tyX9_ok nmX9 hK hP hD hS 0 rfl rfl 0 (by decide) (by decide +kernel) rfl rfl rfl (Nat.le_of_ble_eq_true rfl) dX9_feed_2 (fun H locs hP hD hS => ?_)
  have hP : va_P D vwCl [(y, .inr (9, [.int 0, .int 0, .ref y_lane, .ref y_many, .ref y_item, .ref y_city, .ref y_fresh, .int 0, .ref y_tape, .int 0, .int 0, .int 0, .int 0, .int 0, .int 0, .int 0, .int 0, .int 0, .int 0, .int 0, .ref y_cost, .ref y_away, .ref y_fee, .ref y_goesTo, .ref y_priceWas, .ref y_isKept, .ref y_kept, .ref y_trace, .int 0])), (y_tape, .inl (cI, 400, .inl f))] H := hP
  have hD : va_D A [(y, .inr (9, [.int 0, .int 0, .ref y_lane, .ref y_many, .ref y_item, .ref y_city, .ref y_fresh, .int 0, .ref y_tape, .int 0, .int 0, .int 0, .int 0, .int 0, .int 0, .int 0, .int 0, .int 0, .int 0, .int 0, .ref y_cost, .ref y_away, .ref y_fee, .ref y_goesTo, .ref y_priceWas, .ref y_isKept, .ref y_kept, .ref y_trace, .int 0])), (y_tape, .inl (cI, 400, .inl f))] := hD
  refine lv_iload_n S.1 S.2.1 dX9_feed_5 rfl (lv_at hl 2 rfl) ?_
  refine lv_i2l (v := (5)) S.1 S.2.1 dX9_feed_6 (by decide) ?_
  refine lv_lconst (v := 1) S.1 S.2.1 dX9_feed_7 (by decide) ?_
  refine lv_ldc2 (v := (8)) S.1 S.2.1 S.2.2.2.1 (S.2.2.2.2 (.constantLong RX9 78 (8)) (by decide +kernel)) dX9_feed_8 ?_
  refine b_ai (wr := [(y, .inr (9, [.int 0, .int 0, .ref y_lane, .ref y_many, .ref y_item, .ref y_city, .ref y_fresh, .int 0, .ref y_tape, .int 0, .int 0, .int 0, .int 0, .int 0, .int 0, .int 0, .int 0, .int 0, .int 0, .int 0, .ref y_cost, .ref y_away, .ref y_fee, .ref y_goesTo, .ref y_priceWas, .ref y_isKept, .ref y_kept, .ref y_trace, .int 0])), (y_tape, .inl (cI, 400, .inl f))]) (b_runS (As := [.long 5, .long 1, .long 8]) (c_X9_in_t l D cI cZ cC cS sq H.size 5 1 8 (by decide) (by decide)) S gX9_feed_X9_in rfl hdS_X9_in ⟨Nat.le_of_ble_eq_true rfl, Nat.le_of_ble_eq_true rfl⟩ ⟨Nat.le_of_ble_eq_true rfl, Nat.le_of_ble_eq_true rfl⟩ hK hP hD [] rfl (by decide) rfl hl.1 rfl (Nat.le_of_ble_eq_true rfl) dX9_feed_11) hP hD hS hA [] [0, 1] rfl rfl (by decide) (by decide) (fun r_1 w_2 H locs hw_3 hP hD hS => ?_)
  obtain ⟨rfl, rfl⟩ := hw_3
  have hP : va_P D vwCl [(y, .inr (9, [.int 0, .int 0, .ref y_lane, .ref y_many, .ref y_item, .ref y_city, .ref y_fresh, .int 0, .ref y_tape, .int 0, .int 0, .int 0, .int 0, .int 0, .int 0, .int 0, .int 0, .int 0, .int 0, .int 0, .ref y_cost, .ref y_away, .ref y_fee, .ref y_goesTo, .ref y_priceWas, .ref y_isKept, .ref y_kept, .ref y_trace, .int 0])), (y_tape, .inl (cI, 400, .inl f))] H := hP
  have hD : va_D A [(y, .inr (9, [.int 0, .int 0, .ref y_lane, .ref y_many, .ref y_item, .ref y_city, .ref y_fresh, .int 0, .ref y_tape, .int 0, .int 0, .int 0, .int 0, .int 0, .int 0, .int 0, .int 0, .int 0, .int 0, .int 0, .ref y_cost, .ref y_away, .ref y_fee, .ref y_goesTo, .ref y_priceWas, .ref y_isKept, .ref y_kept, .ref y_trace, .int 0])), (y_tape, .inl (cI, 400, .inl f))] := hD
  refine lv_if_ne (tgt := 20) S.1 S.2.1 dX9_feed_14 (by decide) (fun c_4 => ?_) (fun c_4 => absurd c_4 (by decide))
  refine lv_aload_n S.1 S.2.1 dX9_feed_20 rfl (lv_at hl 0 rfl) ?_
  refine b_get (v := .int 0) S iX9 hK hP 0 rfl rfl 9 (by decide) (by decide +kernel) rfl dX9_feed_21 ?_
  refine lv_iload_n S.1 S.2.1 dX9_feed_24 rfl (lv_at hl 2 rfl) ?_
  refine lv_iadd S.1 S.2.1 dX9_feed_25 ?_
  refine lv_topi (fun x_5 ex_5 => ?_)
  have ex_5 : x_5 = 5 := by rw [ex_5]; decide
  subst ex_5
  refine lv_sipush (v := 400) S.1 S.2.1 dX9_feed_26 (by decide) ?_
  refine lv_icmp_le (tgt := 35) S.1 S.2.1 dX9_feed_29 (by decide) (fun c_6 => ?_) (fun c_6 => absurd c_6 (by decide))
  refine lv_iload_n S.1 S.2.1 dX9_feed_35 rfl (lv_at hl 2 rfl) ?_
  refine lv_iconst (v := 1) S.1 S.2.1 dX9_feed_36 (by decide) ?_
  refine lv_isub S.1 S.2.1 dX9_feed_37 ?_
  refine lv_topi (fun x_7 ex_7 => ?_)
  have ex_7 : x_7 = 4 := by rw [ex_7]; decide
  subst ex_7
  refine lv_istore (lv' := [(4, .int 4), (0, .ref y), (1, .long wv), (3, .int 5)]) S.1 S.2.1 dX9_feed_38 hl (by decide) rfl (fun ls hl => ?_)
  refine lv_iload S.1 S.2.1 dX9_feed_40 (lv_at hl 0 rfl) ?_
  refine lv_if_lt (tgt := 82) S.1 S.2.1 dX9_feed_42 (by decide) (fun c_8 => absurd c_8 (by decide)) (fun c_8 => ?_)
  refine lv_aload_n S.1 S.2.1 dX9_feed_45 rfl (lv_at hl 1 rfl) ?_
  refine b_get (v := .ref y_tape) S iX9 hK hP 0 rfl rfl 8 (by decide) (by decide +kernel) rfl dX9_feed_46 ?_
  refine lv_aload_n S.1 S.2.1 dX9_feed_49 rfl (lv_at hl 1 rfl) ?_
  refine b_get (v := .int 0) S iX9 hK hP 0 rfl rfl 9 (by decide) (by decide +kernel) rfl dX9_feed_50 ?_
  refine lv_lload_n S.1 S.2.1 dX9_feed_53 rfl (lv_at hl 2 rfl) ?_
  refine lv_bipush (v := 8) S.1 S.2.1 dX9_feed_54 (by decide) ?_
  refine lv_iload S.1 S.2.1 dX9_feed_56 (lv_at hl 0 rfl) ?_
  refine lv_imul S.1 S.2.1 dX9_feed_58 ?_
  refine lv_topi (fun x_9 ex_9 => ?_)
  have ex_9 : x_9 = 32 := by rw [ex_9]; decide
  subst ex_9
  refine lv_lshr S.1 S.2.1 dX9_feed_59 rfl ?_
  refine lv_topl (fun z_10 ez_10 => ?_)
  refine lv_ldc2 (v := (255)) S.1 S.2.1 S.2.2.2.1 (S.2.2.2.2 (.constantLong RX9 84 (255)) (by decide +kernel)) dX9_feed_60 ?_
  refine lv_land S.1 S.2.1 dX9_feed_63 ?_
  refine lv_topl (fun z_11 ez_11 => ?_)
  refine lv_l2i S.1 S.2.1 dX9_feed_64 rfl ?_
  refine lv_topi (fun x_13 ex_13 => ?_)
  refine va_iast S.1 S.2.1 hK.1 hP hD hS 1 0 rfl rfl (by unfold vp_in; decide) dX9_feed_65 (fun H locs hP hD hS => ?_)
  have hP : va_P D vwCl [(y, .inr (9, [.int 0, .int 0, .ref y_lane, .ref y_many, .ref y_item, .ref y_city, .ref y_fresh, .int 0, .ref y_tape, .int 0, .int 0, .int 0, .int 0, .int 0, .int 0, .int 0, .int 0, .int 0, .int 0, .int 0, .ref y_cost, .ref y_away, .ref y_fee, .ref y_goesTo, .ref y_priceWas, .ref y_isKept, .ref y_kept, .ref y_trace, .int 0])), (y_tape, .inl (cI, 400, .inl (upd f (0 : Int32).toNatClampNeg (x_13))))] H := hP
  have hD : va_D A [(y, .inr (9, [.int 0, .int 0, .ref y_lane, .ref y_many, .ref y_item, .ref y_city, .ref y_fresh, .int 0, .ref y_tape, .int 0, .int 0, .int 0, .int 0, .int 0, .int 0, .int 0, .int 0, .int 0, .int 0, .int 0, .ref y_cost, .ref y_away, .ref y_fee, .ref y_goesTo, .ref y_priceWas, .ref y_isKept, .ref y_kept, .ref y_trace, .int 0])), (y_tape, .inl (cI, 400, .inl (upd f (0 : Int32).toNatClampNeg (x_13))))] := hD
  generalize (upd f (0 : Int32).toNatClampNeg (x_13)) = f_14 at hP hD
  refine lv_aload_n S.1 S.2.1 dX9_feed_66 rfl (lv_at hl 1 rfl) ?_
  refine lv_dup S.1 S.2.1 dX9_feed_67 rfl ?_
  refine b_get (v := .int 0) S iX9 hK hP 0 rfl rfl 9 (by decide) (by decide +kernel) rfl dX9_feed_68 ?_
  refine lv_iconst (v := 1) S.1 S.2.1 dX9_feed_71 (by decide) ?_
  refine lv_iadd S.1 S.2.1 dX9_feed_72 ?_
  refine lv_topi (fun x_15 ex_15 => ?_)
  have ex_15 : x_15 = 1 := by rw [ex_15]; decide
  subst ex_15
  refine b_put (v := .int 1) S iX9 tyX9 tyX9_ok nmX9 hK hP hD hS 0 rfl rfl 9 (by decide) (by decide +kernel) rfl rfl rfl (Nat.le_of_ble_eq_true rfl) dX9_feed_73 (fun H locs hP hD hS => ?_)
  have hP : va_P D vwCl [(y, .inr (9, [.int 0, .int 0, .ref y_lane, .ref y_many, .ref y_item, .ref y_city, .ref y_fresh, .int 0, .ref y_tape, .int 1, .int 0, .int 0, .int 0, .int 0, .int 0, .int 0, .int 0, .int 0, .int 0, .int 0, .ref y_cost, .ref y_away, .ref y_fee, .ref y_goesTo, .ref y_priceWas, .ref y_isKept, .ref y_kept, .ref y_trace, .int 0])), (y_tape, .inl (cI, 400, .inl f_14))] H := hP
  have hD : va_D A [(y, .inr (9, [.int 0, .int 0, .ref y_lane, .ref y_many, .ref y_item, .ref y_city, .ref y_fresh, .int 0, .ref y_tape, .int 1, .int 0, .int 0, .int 0, .int 0, .int 0, .int 0, .int 0, .int 0, .int 0, .int 0, .ref y_cost, .ref y_away, .ref y_fee, .ref y_goesTo, .ref y_priceWas, .ref y_isKept, .ref y_kept, .ref y_trace, .int 0])), (y_tape, .inl (cI, 400, .inl f_14))] := hD
  refine lv_iinc (v := 3) (lv' := [(4, .int 3), (0, .ref y), (1, .long wv), (3, .int 5)]) S.1 S.2.1 dX9_feed_76 hl (k := 0) rfl (by decide) (by decide) rfl (fun ls hl => ?_)
  refine lv_goto (tgt := 40) S.1 S.2.1 dX9_feed_79 (by decide) ?_
  refine lv_iload S.1 S.2.1 dX9_feed_40 (lv_at hl 0 rfl) ?_
  refine lv_if_lt (tgt := 82) S.1 S.2.1 dX9_feed_42 (by decide) (fun c_16 => absurd c_16 (by decide)) (fun c_16 => ?_)
  refine lv_aload_n S.1 S.2.1 dX9_feed_45 rfl (lv_at hl 1 rfl) ?_
  refine b_get (v := .ref y_tape) S iX9 hK hP 0 rfl rfl 8 (by decide) (by decide +kernel) rfl dX9_feed_46 ?_
  refine lv_aload_n S.1 S.2.1 dX9_feed_49 rfl (lv_at hl 1 rfl) ?_
  refine b_get (v := .int 1) S iX9 hK hP 0 rfl rfl 9 (by decide) (by decide +kernel) rfl dX9_feed_50 ?_
  refine lv_lload_n S.1 S.2.1 dX9_feed_53 rfl (lv_at hl 2 rfl) ?_
  refine lv_bipush (v := 8) S.1 S.2.1 dX9_feed_54 (by decide) ?_
  refine lv_iload S.1 S.2.1 dX9_feed_56 (lv_at hl 0 rfl) ?_
  refine lv_imul S.1 S.2.1 dX9_feed_58 ?_
  refine lv_topi (fun x_17 ex_17 => ?_)
  have ex_17 : x_17 = 24 := by rw [ex_17]; decide
  subst ex_17
  refine lv_lshr S.1 S.2.1 dX9_feed_59 rfl ?_
  refine lv_topl (fun z_18 ez_18 => ?_)
  refine lv_ldc2 (v := (255)) S.1 S.2.1 S.2.2.2.1 (S.2.2.2.2 (.constantLong RX9 84 (255)) (by decide +kernel)) dX9_feed_60 ?_
  refine lv_land S.1 S.2.1 dX9_feed_63 ?_
  refine lv_topl (fun z_19 ez_19 => ?_)
  refine lv_l2i S.1 S.2.1 dX9_feed_64 rfl ?_
  refine lv_topi (fun x_21 ex_21 => ?_)
  refine va_iast S.1 S.2.1 hK.1 hP hD hS 1 0 rfl rfl (by unfold vp_in; decide) dX9_feed_65 (fun H locs hP hD hS => ?_)
  have hP : va_P D vwCl [(y, .inr (9, [.int 0, .int 0, .ref y_lane, .ref y_many, .ref y_item, .ref y_city, .ref y_fresh, .int 0, .ref y_tape, .int 1, .int 0, .int 0, .int 0, .int 0, .int 0, .int 0, .int 0, .int 0, .int 0, .int 0, .ref y_cost, .ref y_away, .ref y_fee, .ref y_goesTo, .ref y_priceWas, .ref y_isKept, .ref y_kept, .ref y_trace, .int 0])), (y_tape, .inl (cI, 400, .inl (upd f_14 (1 : Int32).toNatClampNeg (x_21))))] H := hP
  have hD : va_D A [(y, .inr (9, [.int 0, .int 0, .ref y_lane, .ref y_many, .ref y_item, .ref y_city, .ref y_fresh, .int 0, .ref y_tape, .int 1, .int 0, .int 0, .int 0, .int 0, .int 0, .int 0, .int 0, .int 0, .int 0, .int 0, .ref y_cost, .ref y_away, .ref y_fee, .ref y_goesTo, .ref y_priceWas, .ref y_isKept, .ref y_kept, .ref y_trace, .int 0])), (y_tape, .inl (cI, 400, .inl (upd f_14 (1 : Int32).toNatClampNeg (x_21))))] := hD
  generalize (upd f_14 (1 : Int32).toNatClampNeg (x_21)) = f_22 at hP hD
  refine lv_aload_n S.1 S.2.1 dX9_feed_66 rfl (lv_at hl 1 rfl) ?_
  refine lv_dup S.1 S.2.1 dX9_feed_67 rfl ?_
  refine b_get (v := .int 1) S iX9 hK hP 0 rfl rfl 9 (by decide) (by decide +kernel) rfl dX9_feed_68 ?_
  refine lv_iconst (v := 1) S.1 S.2.1 dX9_feed_71 (by decide) ?_
  refine lv_iadd S.1 S.2.1 dX9_feed_72 ?_
  refine lv_topi (fun x_23 ex_23 => ?_)
  have ex_23 : x_23 = 2 := by rw [ex_23]; decide
  subst ex_23
  refine b_put (v := .int 2) S iX9 tyX9 tyX9_ok nmX9 hK hP hD hS 0 rfl rfl 9 (by decide) (by decide +kernel) rfl rfl rfl (Nat.le_of_ble_eq_true rfl) dX9_feed_73 (fun H locs hP hD hS => ?_)
  have hP : va_P D vwCl [(y, .inr (9, [.int 0, .int 0, .ref y_lane, .ref y_many, .ref y_item, .ref y_city, .ref y_fresh, .int 0, .ref y_tape, .int 2, .int 0, .int 0, .int 0, .int 0, .int 0, .int 0, .int 0, .int 0, .int 0, .int 0, .ref y_cost, .ref y_away, .ref y_fee, .ref y_goesTo, .ref y_priceWas, .ref y_isKept, .ref y_kept, .ref y_trace, .int 0])), (y_tape, .inl (cI, 400, .inl f_22))] H := hP
  have hD : va_D A [(y, .inr (9, [.int 0, .int 0, .ref y_lane, .ref y_many, .ref y_item, .ref y_city, .ref y_fresh, .int 0, .ref y_tape, .int 2, .int 0, .int 0, .int 0, .int 0, .int 0, .int 0, .int 0, .int 0, .int 0, .int 0, .ref y_cost, .ref y_away, .ref y_fee, .ref y_goesTo, .ref y_priceWas, .ref y_isKept, .ref y_kept, .ref y_trace, .int 0])), (y_tape, .inl (cI, 400, .inl f_22))] := hD
  refine lv_iinc (v := 2) (lv' := [(4, .int 2), (0, .ref y), (1, .long wv), (3, .int 5)]) S.1 S.2.1 dX9_feed_76 hl (k := 0) rfl (by decide) (by decide) rfl (fun ls hl => ?_)
  refine lv_goto (tgt := 40) S.1 S.2.1 dX9_feed_79 (by decide) ?_
  refine lv_iload S.1 S.2.1 dX9_feed_40 (lv_at hl 0 rfl) ?_
  refine lv_if_lt (tgt := 82) S.1 S.2.1 dX9_feed_42 (by decide) (fun c_24 => absurd c_24 (by decide)) (fun c_24 => ?_)
  refine lv_aload_n S.1 S.2.1 dX9_feed_45 rfl (lv_at hl 1 rfl) ?_
  refine b_get (v := .ref y_tape) S iX9 hK hP 0 rfl rfl 8 (by decide) (by decide +kernel) rfl dX9_feed_46 ?_
  refine lv_aload_n S.1 S.2.1 dX9_feed_49 rfl (lv_at hl 1 rfl) ?_
  refine b_get (v := .int 2) S iX9 hK hP 0 rfl rfl 9 (by decide) (by decide +kernel) rfl dX9_feed_50 ?_
  refine lv_lload_n S.1 S.2.1 dX9_feed_53 rfl (lv_at hl 2 rfl) ?_
  refine lv_bipush (v := 8) S.1 S.2.1 dX9_feed_54 (by decide) ?_
  refine lv_iload S.1 S.2.1 dX9_feed_56 (lv_at hl 0 rfl) ?_
  refine lv_imul S.1 S.2.1 dX9_feed_58 ?_
  refine lv_topi (fun x_25 ex_25 => ?_)
  have ex_25 : x_25 = 16 := by rw [ex_25]; decide
  subst ex_25
  refine lv_lshr S.1 S.2.1 dX9_feed_59 rfl ?_
  refine lv_topl (fun z_26 ez_26 => ?_)
  refine lv_ldc2 (v := (255)) S.1 S.2.1 S.2.2.2.1 (S.2.2.2.2 (.constantLong RX9 84 (255)) (by decide +kernel)) dX9_feed_60 ?_
  refine lv_land S.1 S.2.1 dX9_feed_63 ?_
  refine lv_topl (fun z_27 ez_27 => ?_)
  refine lv_l2i S.1 S.2.1 dX9_feed_64 rfl ?_
  refine lv_topi (fun x_29 ex_29 => ?_)
  refine va_iast S.1 S.2.1 hK.1 hP hD hS 1 0 rfl rfl (by unfold vp_in; decide) dX9_feed_65 (fun H locs hP hD hS => ?_)
  have hP : va_P D vwCl [(y, .inr (9, [.int 0, .int 0, .ref y_lane, .ref y_many, .ref y_item, .ref y_city, .ref y_fresh, .int 0, .ref y_tape, .int 2, .int 0, .int 0, .int 0, .int 0, .int 0, .int 0, .int 0, .int 0, .int 0, .int 0, .ref y_cost, .ref y_away, .ref y_fee, .ref y_goesTo, .ref y_priceWas, .ref y_isKept, .ref y_kept, .ref y_trace, .int 0])), (y_tape, .inl (cI, 400, .inl (upd f_22 (2 : Int32).toNatClampNeg (x_29))))] H := hP
  have hD : va_D A [(y, .inr (9, [.int 0, .int 0, .ref y_lane, .ref y_many, .ref y_item, .ref y_city, .ref y_fresh, .int 0, .ref y_tape, .int 2, .int 0, .int 0, .int 0, .int 0, .int 0, .int 0, .int 0, .int 0, .int 0, .int 0, .ref y_cost, .ref y_away, .ref y_fee, .ref y_goesTo, .ref y_priceWas, .ref y_isKept, .ref y_kept, .ref y_trace, .int 0])), (y_tape, .inl (cI, 400, .inl (upd f_22 (2 : Int32).toNatClampNeg (x_29))))] := hD
  generalize (upd f_22 (2 : Int32).toNatClampNeg (x_29)) = f_30 at hP hD
  refine lv_aload_n S.1 S.2.1 dX9_feed_66 rfl (lv_at hl 1 rfl) ?_
  refine lv_dup S.1 S.2.1 dX9_feed_67 rfl ?_
  refine b_get (v := .int 2) S iX9 hK hP 0 rfl rfl 9 (by decide) (by decide +kernel) rfl dX9_feed_68 ?_
  refine lv_iconst (v := 1) S.1 S.2.1 dX9_feed_71 (by decide) ?_
  refine lv_iadd S.1 S.2.1 dX9_feed_72 ?_
  refine lv_topi (fun x_31 ex_31 => ?_)
  have ex_31 : x_31 = 3 := by rw [ex_31]; decide
  subst ex_31
  refine b_put (v := .int 3) S iX9 tyX9 tyX9_ok nmX9 hK hP hD hS 0 rfl rfl 9 (by decide) (by decide +kernel) rfl rfl rfl (Nat.le_of_ble_eq_true rfl) dX9_feed_73 (fun H locs hP hD hS => ?_)
  have hP : va_P D vwCl [(y, .inr (9, [.int 0, .int 0, .ref y_lane, .ref y_many, .ref y_item, .ref y_city, .ref y_fresh, .int 0, .ref y_tape, .int 3, .int 0, .int 0, .int 0, .int 0, .int 0, .int 0, .int 0, .int 0, .int 0, .int 0, .ref y_cost, .ref y_away, .ref y_fee, .ref y_goesTo, .ref y_priceWas, .ref y_isKept, .ref y_kept, .ref y_trace, .int 0])), (y_tape, .inl (cI, 400, .inl f_30))] H := hP
  have hD : va_D A [(y, .inr (9, [.int 0, .int 0, .ref y_lane, .ref y_many, .ref y_item, .ref y_city, .ref y_fresh, .int 0, .ref y_tape, .int 3, .int 0, .int 0, .int 0, .int 0, .int 0, .int 0, .int 0, .int 0, .int 0, .int 0, .ref y_cost, .ref y_away, .ref y_fee, .ref y_goesTo, .ref y_priceWas, .ref y_isKept, .ref y_kept, .ref y_trace, .int 0])), (y_tape, .inl (cI, 400, .inl f_30))] := hD
  refine lv_iinc (v := 1) (lv' := [(4, .int 1), (0, .ref y), (1, .long wv), (3, .int 5)]) S.1 S.2.1 dX9_feed_76 hl (k := 0) rfl (by decide) (by decide) rfl (fun ls hl => ?_)
  refine lv_goto (tgt := 40) S.1 S.2.1 dX9_feed_79 (by decide) ?_
  refine lv_iload S.1 S.2.1 dX9_feed_40 (lv_at hl 0 rfl) ?_
  refine lv_if_lt (tgt := 82) S.1 S.2.1 dX9_feed_42 (by decide) (fun c_32 => absurd c_32 (by decide)) (fun c_32 => ?_)
  refine lv_aload_n S.1 S.2.1 dX9_feed_45 rfl (lv_at hl 1 rfl) ?_
  refine b_get (v := .ref y_tape) S iX9 hK hP 0 rfl rfl 8 (by decide) (by decide +kernel) rfl dX9_feed_46 ?_
  refine lv_aload_n S.1 S.2.1 dX9_feed_49 rfl (lv_at hl 1 rfl) ?_
  refine b_get (v := .int 3) S iX9 hK hP 0 rfl rfl 9 (by decide) (by decide +kernel) rfl dX9_feed_50 ?_
  refine lv_lload_n S.1 S.2.1 dX9_feed_53 rfl (lv_at hl 2 rfl) ?_
  refine lv_bipush (v := 8) S.1 S.2.1 dX9_feed_54 (by decide) ?_
  refine lv_iload S.1 S.2.1 dX9_feed_56 (lv_at hl 0 rfl) ?_
  refine lv_imul S.1 S.2.1 dX9_feed_58 ?_
  refine lv_topi (fun x_33 ex_33 => ?_)
  have ex_33 : x_33 = 8 := by rw [ex_33]; decide
  subst ex_33
  refine lv_lshr S.1 S.2.1 dX9_feed_59 rfl ?_
  refine lv_topl (fun z_34 ez_34 => ?_)
  refine lv_ldc2 (v := (255)) S.1 S.2.1 S.2.2.2.1 (S.2.2.2.2 (.constantLong RX9 84 (255)) (by decide +kernel)) dX9_feed_60 ?_
  refine lv_land S.1 S.2.1 dX9_feed_63 ?_
  refine lv_topl (fun z_35 ez_35 => ?_)
  refine lv_l2i S.1 S.2.1 dX9_feed_64 rfl ?_
  refine lv_topi (fun x_37 ex_37 => ?_)
  refine va_iast S.1 S.2.1 hK.1 hP hD hS 1 0 rfl rfl (by unfold vp_in; decide) dX9_feed_65 (fun H locs hP hD hS => ?_)
  have hP : va_P D vwCl [(y, .inr (9, [.int 0, .int 0, .ref y_lane, .ref y_many, .ref y_item, .ref y_city, .ref y_fresh, .int 0, .ref y_tape, .int 3, .int 0, .int 0, .int 0, .int 0, .int 0, .int 0, .int 0, .int 0, .int 0, .int 0, .ref y_cost, .ref y_away, .ref y_fee, .ref y_goesTo, .ref y_priceWas, .ref y_isKept, .ref y_kept, .ref y_trace, .int 0])), (y_tape, .inl (cI, 400, .inl (upd f_30 (3 : Int32).toNatClampNeg (x_37))))] H := hP
  have hD : va_D A [(y, .inr (9, [.int 0, .int 0, .ref y_lane, .ref y_many, .ref y_item, .ref y_city, .ref y_fresh, .int 0, .ref y_tape, .int 3, .int 0, .int 0, .int 0, .int 0, .int 0, .int 0, .int 0, .int 0, .int 0, .int 0, .ref y_cost, .ref y_away, .ref y_fee, .ref y_goesTo, .ref y_priceWas, .ref y_isKept, .ref y_kept, .ref y_trace, .int 0])), (y_tape, .inl (cI, 400, .inl (upd f_30 (3 : Int32).toNatClampNeg (x_37))))] := hD
  generalize (upd f_30 (3 : Int32).toNatClampNeg (x_37)) = f_38 at hP hD
  refine lv_aload_n S.1 S.2.1 dX9_feed_66 rfl (lv_at hl 1 rfl) ?_
  refine lv_dup S.1 S.2.1 dX9_feed_67 rfl ?_
  refine b_get (v := .int 3) S iX9 hK hP 0 rfl rfl 9 (by decide) (by decide +kernel) rfl dX9_feed_68 ?_
  refine lv_iconst (v := 1) S.1 S.2.1 dX9_feed_71 (by decide) ?_
  refine lv_iadd S.1 S.2.1 dX9_feed_72 ?_
  refine lv_topi (fun x_39 ex_39 => ?_)
  have ex_39 : x_39 = 4 := by rw [ex_39]; decide
  subst ex_39
  refine b_put (v := .int 4) S iX9 tyX9 tyX9_ok nmX9 hK hP hD hS 0 rfl rfl 9 (by decide) (by decide +kernel) rfl rfl rfl (Nat.le_of_ble_eq_true rfl) dX9_feed_73 (fun H locs hP hD hS => ?_)
  have hP : va_P D vwCl [(y, .inr (9, [.int 0, .int 0, .ref y_lane, .ref y_many, .ref y_item, .ref y_city, .ref y_fresh, .int 0, .ref y_tape, .int 4, .int 0, .int 0, .int 0, .int 0, .int 0, .int 0, .int 0, .int 0, .int 0, .int 0, .ref y_cost, .ref y_away, .ref y_fee, .ref y_goesTo, .ref y_priceWas, .ref y_isKept, .ref y_kept, .ref y_trace, .int 0])), (y_tape, .inl (cI, 400, .inl f_38))] H := hP
  have hD : va_D A [(y, .inr (9, [.int 0, .int 0, .ref y_lane, .ref y_many, .ref y_item, .ref y_city, .ref y_fresh, .int 0, .ref y_tape, .int 4, .int 0, .int 0, .int 0, .int 0, .int 0, .int 0, .int 0, .int 0, .int 0, .int 0, .ref y_cost, .ref y_away, .ref y_fee, .ref y_goesTo, .ref y_priceWas, .ref y_isKept, .ref y_kept, .ref y_trace, .int 0])), (y_tape, .inl (cI, 400, .inl f_38))] := hD
  refine lv_iinc (v := 0) (lv' := [(4, .int 0), (0, .ref y), (1, .long wv), (3, .int 5)]) S.1 S.2.1 dX9_feed_76 hl (k := 0) rfl (by decide) (by decide) rfl (fun ls hl => ?_)
  refine lv_goto (tgt := 40) S.1 S.2.1 dX9_feed_79 (by decide) ?_
  refine lv_iload S.1 S.2.1 dX9_feed_40 (lv_at hl 0 rfl) ?_
  refine lv_if_lt (tgt := 82) S.1 S.2.1 dX9_feed_42 (by decide) (fun c_40 => absurd c_40 (by decide)) (fun c_40 => ?_)
  refine lv_aload_n S.1 S.2.1 dX9_feed_45 rfl (lv_at hl 1 rfl) ?_
  refine b_get (v := .ref y_tape) S iX9 hK hP 0 rfl rfl 8 (by decide) (by decide +kernel) rfl dX9_feed_46 ?_
  refine lv_aload_n S.1 S.2.1 dX9_feed_49 rfl (lv_at hl 1 rfl) ?_
  refine b_get (v := .int 4) S iX9 hK hP 0 rfl rfl 9 (by decide) (by decide +kernel) rfl dX9_feed_50 ?_
  refine lv_lload_n S.1 S.2.1 dX9_feed_53 rfl (lv_at hl 2 rfl) ?_
  refine lv_bipush (v := 8) S.1 S.2.1 dX9_feed_54 (by decide) ?_
  refine lv_iload S.1 S.2.1 dX9_feed_56 (lv_at hl 0 rfl) ?_
  refine lv_imul S.1 S.2.1 dX9_feed_58 ?_
  refine lv_topi (fun x_41 ex_41 => ?_)
  have ex_41 : x_41 = 0 := by rw [ex_41]; decide
  subst ex_41
  refine lv_lshr S.1 S.2.1 dX9_feed_59 rfl ?_
  refine lv_topl (fun z_42 ez_42 => ?_)
  refine lv_ldc2 (v := (255)) S.1 S.2.1 S.2.2.2.1 (S.2.2.2.2 (.constantLong RX9 84 (255)) (by decide +kernel)) dX9_feed_60 ?_
  refine lv_land S.1 S.2.1 dX9_feed_63 ?_
  refine lv_topl (fun z_43 ez_43 => ?_)
  refine lv_l2i S.1 S.2.1 dX9_feed_64 rfl ?_
  refine lv_topi (fun x_45 ex_45 => ?_)
  refine va_iast S.1 S.2.1 hK.1 hP hD hS 1 0 rfl rfl (by unfold vp_in; decide) dX9_feed_65 (fun H locs hP hD hS => ?_)
  have hP : va_P D vwCl [(y, .inr (9, [.int 0, .int 0, .ref y_lane, .ref y_many, .ref y_item, .ref y_city, .ref y_fresh, .int 0, .ref y_tape, .int 4, .int 0, .int 0, .int 0, .int 0, .int 0, .int 0, .int 0, .int 0, .int 0, .int 0, .ref y_cost, .ref y_away, .ref y_fee, .ref y_goesTo, .ref y_priceWas, .ref y_isKept, .ref y_kept, .ref y_trace, .int 0])), (y_tape, .inl (cI, 400, .inl (upd f_38 (4 : Int32).toNatClampNeg (x_45))))] H := hP
  have hD : va_D A [(y, .inr (9, [.int 0, .int 0, .ref y_lane, .ref y_many, .ref y_item, .ref y_city, .ref y_fresh, .int 0, .ref y_tape, .int 4, .int 0, .int 0, .int 0, .int 0, .int 0, .int 0, .int 0, .int 0, .int 0, .int 0, .ref y_cost, .ref y_away, .ref y_fee, .ref y_goesTo, .ref y_priceWas, .ref y_isKept, .ref y_kept, .ref y_trace, .int 0])), (y_tape, .inl (cI, 400, .inl (upd f_38 (4 : Int32).toNatClampNeg (x_45))))] := hD
  generalize (upd f_38 (4 : Int32).toNatClampNeg (x_45)) = f_46 at hP hD
  refine lv_aload_n S.1 S.2.1 dX9_feed_66 rfl (lv_at hl 1 rfl) ?_
  refine lv_dup S.1 S.2.1 dX9_feed_67 rfl ?_
  refine b_get (v := .int 4) S iX9 hK hP 0 rfl rfl 9 (by decide) (by decide +kernel) rfl dX9_feed_68 ?_
  refine lv_iconst (v := 1) S.1 S.2.1 dX9_feed_71 (by decide) ?_
  refine lv_iadd S.1 S.2.1 dX9_feed_72 ?_
  refine lv_topi (fun x_47 ex_47 => ?_)
  have ex_47 : x_47 = 5 := by rw [ex_47]; decide
  subst ex_47
  refine b_put (v := .int 5) S iX9 tyX9 tyX9_ok nmX9 hK hP hD hS 0 rfl rfl 9 (by decide) (by decide +kernel) rfl rfl rfl (Nat.le_of_ble_eq_true rfl) dX9_feed_73 (fun H locs hP hD hS => ?_)
  have hP : va_P D vwCl [(y, .inr (9, [.int 0, .int 0, .ref y_lane, .ref y_many, .ref y_item, .ref y_city, .ref y_fresh, .int 0, .ref y_tape, .int 5, .int 0, .int 0, .int 0, .int 0, .int 0, .int 0, .int 0, .int 0, .int 0, .int 0, .ref y_cost, .ref y_away, .ref y_fee, .ref y_goesTo, .ref y_priceWas, .ref y_isKept, .ref y_kept, .ref y_trace, .int 0])), (y_tape, .inl (cI, 400, .inl f_46))] H := hP
  have hD : va_D A [(y, .inr (9, [.int 0, .int 0, .ref y_lane, .ref y_many, .ref y_item, .ref y_city, .ref y_fresh, .int 0, .ref y_tape, .int 5, .int 0, .int 0, .int 0, .int 0, .int 0, .int 0, .int 0, .int 0, .int 0, .int 0, .ref y_cost, .ref y_away, .ref y_fee, .ref y_goesTo, .ref y_priceWas, .ref y_isKept, .ref y_kept, .ref y_trace, .int 0])), (y_tape, .inl (cI, 400, .inl f_46))] := hD
  refine lv_iinc (v := (-1)) (lv' := [(4, .int (-1)), (0, .ref y), (1, .long wv), (3, .int 5)]) S.1 S.2.1 dX9_feed_76 hl (k := 0) rfl (by decide) (by decide) rfl (fun ls hl => ?_)
  refine lv_goto (tgt := 40) S.1 S.2.1 dX9_feed_79 (by decide) ?_
  refine lv_iload S.1 S.2.1 dX9_feed_40 (lv_at hl 0 rfl) ?_
  refine lv_if_lt (tgt := 82) S.1 S.2.1 dX9_feed_42 (by decide) (fun c_48 => ?_) (fun c_48 => absurd c_48 (by decide))
  refine lv_aload_n S.1 S.2.1 dX9_feed_82 rfl (lv_at hl 1 rfl) ?_
  refine b_get (v := .int 5) S iX9 hK hP 0 rfl rfl 9 (by decide) (by decide +kernel) rfl dX9_feed_83 ?_
  have hP := hP.sub (ws' := []) [] rfl
  have hD := hD.sub (ws' := []) [] (by decide) rfl
  exact b_iret S.1 S.2.1 X.2.1 X.2.2.1 hP hD hS ⟨rfl, rfl⟩ dX9_feed_86
set_option maxHeartbeats 4000000 in
set_option maxRecDepth 100000 in
theorem c_X9_feed_6 (l : Launch) (D : va_G) (cI cZ cC cS : ClassId) (sq sz : Nat) (y : Nat) (y_lane : Nat) (y_many : Nat) (y_item : Nat) (y_city : Nat) (y_fresh : Nat) (y_tape : Nat) (y_cost : Nat) (y_away : Nat) (y_fee : Nat) (y_goesTo : Nat) (y_priceWas : Nat) (y_isKept : Nat) (y_kept : Nat) (y_trace : Nat) (wv : Int64) (f : Nat → Int32) : mI l yX9_feed wsX9_feed 1 25 D (tyW cI cZ cC cS) sq [(y, .inr (9, [.int 0, .int 0, .ref y_lane, .ref y_many, .ref y_item, .ref y_city, .ref y_fresh, .int 0, .ref y_tape, .int 0, .int 0, .int 0, .int 0, .int 0, .int 0, .int 0, .int 0, .int 0, .int 0, .int 0, .ref y_cost, .ref y_away, .ref y_fee, .ref y_goesTo, .ref y_priceWas, .ref y_isKept, .ref y_kept, .ref y_trace, .int 0])), (y_tape, .inl (cI, 400, .inl f))] sz [.ref y, .long wv, .int 6] (fun r w => r = 6 ∧ w = []) := by
  refine b_metI (cc := cX9_feed) (maxL := 5) (ret := (some .int)) (by decide) rfl (Nat.le_of_ble_eq_true rfl) ?_
  intro p e s m below meth c ls A H X hsz hP hK hD hA hS hl
  have S : CallFix p m c cX9_feed 5 s ([.ref y, .long wv, .int 6] : List Value).toArray wsX9_feed RX9 := X.1
  have hl : lv_has ls 5 [(0, .ref y), (1, .long wv), (3, .int 6)] := hl
  have iX9 := jX9_feed_X9
  refine lv_aload_n S.1 S.2.1 dX9_feed_0 rfl (lv_at hl 0 rfl) ?_
  refine lv_iconst (v := 0) S.1 S.2.1 dX9_feed_1 (by decide) ?_
  refine b_put (v := .int 0) S iX9 tyX9 tyX9_ok nmX9 hK hP hD hS 0 rfl rfl 0 (by decide) (by decide +kernel) rfl rfl rfl (Nat.le_of_ble_eq_true rfl) dX9_feed_2 (fun H locs hP hD hS => ?_)
  have hP : va_P D vwCl [(y, .inr (9, [.int 0, .int 0, .ref y_lane, .ref y_many, .ref y_item, .ref y_city, .ref y_fresh, .int 0, .ref y_tape, .int 0, .int 0, .int 0, .int 0, .int 0, .int 0, .int 0, .int 0, .int 0, .int 0, .int 0, .ref y_cost, .ref y_away, .ref y_fee, .ref y_goesTo, .ref y_priceWas, .ref y_isKept, .ref y_kept, .ref y_trace, .int 0])), (y_tape, .inl (cI, 400, .inl f))] H := hP
  have hD : va_D A [(y, .inr (9, [.int 0, .int 0, .ref y_lane, .ref y_many, .ref y_item, .ref y_city, .ref y_fresh, .int 0, .ref y_tape, .int 0, .int 0, .int 0, .int 0, .int 0, .int 0, .int 0, .int 0, .int 0, .int 0, .int 0, .ref y_cost, .ref y_away, .ref y_fee, .ref y_goesTo, .ref y_priceWas, .ref y_isKept, .ref y_kept, .ref y_trace, .int 0])), (y_tape, .inl (cI, 400, .inl f))] := hD
  refine lv_iload_n S.1 S.2.1 dX9_feed_5 rfl (lv_at hl 2 rfl) ?_
  refine lv_i2l (v := (6)) S.1 S.2.1 dX9_feed_6 (by decide) ?_
  refine lv_lconst (v := 1) S.1 S.2.1 dX9_feed_7 (by decide) ?_
  refine lv_ldc2 (v := (8)) S.1 S.2.1 S.2.2.2.1 (S.2.2.2.2 (.constantLong RX9 78 (8)) (by decide +kernel)) dX9_feed_8 ?_
  refine b_ai (wr := [(y, .inr (9, [.int 0, .int 0, .ref y_lane, .ref y_many, .ref y_item, .ref y_city, .ref y_fresh, .int 0, .ref y_tape, .int 0, .int 0, .int 0, .int 0, .int 0, .int 0, .int 0, .int 0, .int 0, .int 0, .int 0, .ref y_cost, .ref y_away, .ref y_fee, .ref y_goesTo, .ref y_priceWas, .ref y_isKept, .ref y_kept, .ref y_trace, .int 0])), (y_tape, .inl (cI, 400, .inl f))]) (b_runS (As := [.long 6, .long 1, .long 8]) (c_X9_in_t l D cI cZ cC cS sq H.size 6 1 8 (by decide) (by decide)) S gX9_feed_X9_in rfl hdS_X9_in ⟨Nat.le_of_ble_eq_true rfl, Nat.le_of_ble_eq_true rfl⟩ ⟨Nat.le_of_ble_eq_true rfl, Nat.le_of_ble_eq_true rfl⟩ hK hP hD [] rfl (by decide) rfl hl.1 rfl (Nat.le_of_ble_eq_true rfl) dX9_feed_11) hP hD hS hA [] [0, 1] rfl rfl (by decide) (by decide) (fun r_1 w_2 H locs hw_3 hP hD hS => ?_)
  obtain ⟨rfl, rfl⟩ := hw_3
  have hP : va_P D vwCl [(y, .inr (9, [.int 0, .int 0, .ref y_lane, .ref y_many, .ref y_item, .ref y_city, .ref y_fresh, .int 0, .ref y_tape, .int 0, .int 0, .int 0, .int 0, .int 0, .int 0, .int 0, .int 0, .int 0, .int 0, .int 0, .ref y_cost, .ref y_away, .ref y_fee, .ref y_goesTo, .ref y_priceWas, .ref y_isKept, .ref y_kept, .ref y_trace, .int 0])), (y_tape, .inl (cI, 400, .inl f))] H := hP
  have hD : va_D A [(y, .inr (9, [.int 0, .int 0, .ref y_lane, .ref y_many, .ref y_item, .ref y_city, .ref y_fresh, .int 0, .ref y_tape, .int 0, .int 0, .int 0, .int 0, .int 0, .int 0, .int 0, .int 0, .int 0, .int 0, .int 0, .ref y_cost, .ref y_away, .ref y_fee, .ref y_goesTo, .ref y_priceWas, .ref y_isKept, .ref y_kept, .ref y_trace, .int 0])), (y_tape, .inl (cI, 400, .inl f))] := hD
  refine lv_if_ne (tgt := 20) S.1 S.2.1 dX9_feed_14 (by decide) (fun c_4 => ?_) (fun c_4 => absurd c_4 (by decide))
  refine lv_aload_n S.1 S.2.1 dX9_feed_20 rfl (lv_at hl 0 rfl) ?_
  refine b_get (v := .int 0) S iX9 hK hP 0 rfl rfl 9 (by decide) (by decide +kernel) rfl dX9_feed_21 ?_
  refine lv_iload_n S.1 S.2.1 dX9_feed_24 rfl (lv_at hl 2 rfl) ?_
  refine lv_iadd S.1 S.2.1 dX9_feed_25 ?_
  refine lv_topi (fun x_5 ex_5 => ?_)
  have ex_5 : x_5 = 6 := by rw [ex_5]; decide
  subst ex_5
  refine lv_sipush (v := 400) S.1 S.2.1 dX9_feed_26 (by decide) ?_
  refine lv_icmp_le (tgt := 35) S.1 S.2.1 dX9_feed_29 (by decide) (fun c_6 => ?_) (fun c_6 => absurd c_6 (by decide))
  refine lv_iload_n S.1 S.2.1 dX9_feed_35 rfl (lv_at hl 2 rfl) ?_
  refine lv_iconst (v := 1) S.1 S.2.1 dX9_feed_36 (by decide) ?_
  refine lv_isub S.1 S.2.1 dX9_feed_37 ?_
  refine lv_topi (fun x_7 ex_7 => ?_)
  have ex_7 : x_7 = 5 := by rw [ex_7]; decide
  subst ex_7
  refine lv_istore (lv' := [(4, .int 5), (0, .ref y), (1, .long wv), (3, .int 6)]) S.1 S.2.1 dX9_feed_38 hl (by decide) rfl (fun ls hl => ?_)
  refine lv_iload S.1 S.2.1 dX9_feed_40 (lv_at hl 0 rfl) ?_
  refine lv_if_lt (tgt := 82) S.1 S.2.1 dX9_feed_42 (by decide) (fun c_8 => absurd c_8 (by decide)) (fun c_8 => ?_)
  refine lv_aload_n S.1 S.2.1 dX9_feed_45 rfl (lv_at hl 1 rfl) ?_
  refine b_get (v := .ref y_tape) S iX9 hK hP 0 rfl rfl 8 (by decide) (by decide +kernel) rfl dX9_feed_46 ?_
  refine lv_aload_n S.1 S.2.1 dX9_feed_49 rfl (lv_at hl 1 rfl) ?_
  refine b_get (v := .int 0) S iX9 hK hP 0 rfl rfl 9 (by decide) (by decide +kernel) rfl dX9_feed_50 ?_
  refine lv_lload_n S.1 S.2.1 dX9_feed_53 rfl (lv_at hl 2 rfl) ?_
  refine lv_bipush (v := 8) S.1 S.2.1 dX9_feed_54 (by decide) ?_
  refine lv_iload S.1 S.2.1 dX9_feed_56 (lv_at hl 0 rfl) ?_
  refine lv_imul S.1 S.2.1 dX9_feed_58 ?_
  refine lv_topi (fun x_9 ex_9 => ?_)
  have ex_9 : x_9 = 40 := by rw [ex_9]; decide
  subst ex_9
  refine lv_lshr S.1 S.2.1 dX9_feed_59 rfl ?_
  refine lv_topl (fun z_10 ez_10 => ?_)
  refine lv_ldc2 (v := (255)) S.1 S.2.1 S.2.2.2.1 (S.2.2.2.2 (.constantLong RX9 84 (255)) (by decide +kernel)) dX9_feed_60 ?_
  refine lv_land S.1 S.2.1 dX9_feed_63 ?_
  refine lv_topl (fun z_11 ez_11 => ?_)
  refine lv_l2i S.1 S.2.1 dX9_feed_64 rfl ?_
  refine lv_topi (fun x_13 ex_13 => ?_)
  refine va_iast S.1 S.2.1 hK.1 hP hD hS 1 0 rfl rfl (by unfold vp_in; decide) dX9_feed_65 (fun H locs hP hD hS => ?_)
  have hP : va_P D vwCl [(y, .inr (9, [.int 0, .int 0, .ref y_lane, .ref y_many, .ref y_item, .ref y_city, .ref y_fresh, .int 0, .ref y_tape, .int 0, .int 0, .int 0, .int 0, .int 0, .int 0, .int 0, .int 0, .int 0, .int 0, .int 0, .ref y_cost, .ref y_away, .ref y_fee, .ref y_goesTo, .ref y_priceWas, .ref y_isKept, .ref y_kept, .ref y_trace, .int 0])), (y_tape, .inl (cI, 400, .inl (upd f (0 : Int32).toNatClampNeg (x_13))))] H := hP
  have hD : va_D A [(y, .inr (9, [.int 0, .int 0, .ref y_lane, .ref y_many, .ref y_item, .ref y_city, .ref y_fresh, .int 0, .ref y_tape, .int 0, .int 0, .int 0, .int 0, .int 0, .int 0, .int 0, .int 0, .int 0, .int 0, .int 0, .ref y_cost, .ref y_away, .ref y_fee, .ref y_goesTo, .ref y_priceWas, .ref y_isKept, .ref y_kept, .ref y_trace, .int 0])), (y_tape, .inl (cI, 400, .inl (upd f (0 : Int32).toNatClampNeg (x_13))))] := hD
  generalize (upd f (0 : Int32).toNatClampNeg (x_13)) = f_14 at hP hD
  refine lv_aload_n S.1 S.2.1 dX9_feed_66 rfl (lv_at hl 1 rfl) ?_
  refine lv_dup S.1 S.2.1 dX9_feed_67 rfl ?_
  refine b_get (v := .int 0) S iX9 hK hP 0 rfl rfl 9 (by decide) (by decide +kernel) rfl dX9_feed_68 ?_
  refine lv_iconst (v := 1) S.1 S.2.1 dX9_feed_71 (by decide) ?_
  refine lv_iadd S.1 S.2.1 dX9_feed_72 ?_
  refine lv_topi (fun x_15 ex_15 => ?_)
  have ex_15 : x_15 = 1 := by rw [ex_15]; decide
  subst ex_15
  refine b_put (v := .int 1) S iX9 tyX9 tyX9_ok nmX9 hK hP hD hS 0 rfl rfl 9 (by decide) (by decide +kernel) rfl rfl rfl (Nat.le_of_ble_eq_true rfl) dX9_feed_73 (fun H locs hP hD hS => ?_)
  have hP : va_P D vwCl [(y, .inr (9, [.int 0, .int 0, .ref y_lane, .ref y_many, .ref y_item, .ref y_city, .ref y_fresh, .int 0, .ref y_tape, .int 1, .int 0, .int 0, .int 0, .int 0, .int 0, .int 0, .int 0, .int 0, .int 0, .int 0, .ref y_cost, .ref y_away, .ref y_fee, .ref y_goesTo, .ref y_priceWas, .ref y_isKept, .ref y_kept, .ref y_trace, .int 0])), (y_tape, .inl (cI, 400, .inl f_14))] H := hP
  have hD : va_D A [(y, .inr (9, [.int 0, .int 0, .ref y_lane, .ref y_many, .ref y_item, .ref y_city, .ref y_fresh, .int 0, .ref y_tape, .int 1, .int 0, .int 0, .int 0, .int 0, .int 0, .int 0, .int 0, .int 0, .int 0, .int 0, .ref y_cost, .ref y_away, .ref y_fee, .ref y_goesTo, .ref y_priceWas, .ref y_isKept, .ref y_kept, .ref y_trace, .int 0])), (y_tape, .inl (cI, 400, .inl f_14))] := hD
  refine lv_iinc (v := 4) (lv' := [(4, .int 4), (0, .ref y), (1, .long wv), (3, .int 6)]) S.1 S.2.1 dX9_feed_76 hl (k := 0) rfl (by decide) (by decide) rfl (fun ls hl => ?_)
  refine lv_goto (tgt := 40) S.1 S.2.1 dX9_feed_79 (by decide) ?_
  refine lv_iload S.1 S.2.1 dX9_feed_40 (lv_at hl 0 rfl) ?_
  refine lv_if_lt (tgt := 82) S.1 S.2.1 dX9_feed_42 (by decide) (fun c_16 => absurd c_16 (by decide)) (fun c_16 => ?_)
  refine lv_aload_n S.1 S.2.1 dX9_feed_45 rfl (lv_at hl 1 rfl) ?_
  refine b_get (v := .ref y_tape) S iX9 hK hP 0 rfl rfl 8 (by decide) (by decide +kernel) rfl dX9_feed_46 ?_
  refine lv_aload_n S.1 S.2.1 dX9_feed_49 rfl (lv_at hl 1 rfl) ?_
  refine b_get (v := .int 1) S iX9 hK hP 0 rfl rfl 9 (by decide) (by decide +kernel) rfl dX9_feed_50 ?_
  refine lv_lload_n S.1 S.2.1 dX9_feed_53 rfl (lv_at hl 2 rfl) ?_
  refine lv_bipush (v := 8) S.1 S.2.1 dX9_feed_54 (by decide) ?_
  refine lv_iload S.1 S.2.1 dX9_feed_56 (lv_at hl 0 rfl) ?_
  refine lv_imul S.1 S.2.1 dX9_feed_58 ?_
  refine lv_topi (fun x_17 ex_17 => ?_)
  have ex_17 : x_17 = 32 := by rw [ex_17]; decide
  subst ex_17
  refine lv_lshr S.1 S.2.1 dX9_feed_59 rfl ?_
  refine lv_topl (fun z_18 ez_18 => ?_)
  refine lv_ldc2 (v := (255)) S.1 S.2.1 S.2.2.2.1 (S.2.2.2.2 (.constantLong RX9 84 (255)) (by decide +kernel)) dX9_feed_60 ?_
  refine lv_land S.1 S.2.1 dX9_feed_63 ?_
  refine lv_topl (fun z_19 ez_19 => ?_)
  refine lv_l2i S.1 S.2.1 dX9_feed_64 rfl ?_
  refine lv_topi (fun x_21 ex_21 => ?_)
  refine va_iast S.1 S.2.1 hK.1 hP hD hS 1 0 rfl rfl (by unfold vp_in; decide) dX9_feed_65 (fun H locs hP hD hS => ?_)
  have hP : va_P D vwCl [(y, .inr (9, [.int 0, .int 0, .ref y_lane, .ref y_many, .ref y_item, .ref y_city, .ref y_fresh, .int 0, .ref y_tape, .int 1, .int 0, .int 0, .int 0, .int 0, .int 0, .int 0, .int 0, .int 0, .int 0, .int 0, .ref y_cost, .ref y_away, .ref y_fee, .ref y_goesTo, .ref y_priceWas, .ref y_isKept, .ref y_kept, .ref y_trace, .int 0])), (y_tape, .inl (cI, 400, .inl (upd f_14 (1 : Int32).toNatClampNeg (x_21))))] H := hP
  have hD : va_D A [(y, .inr (9, [.int 0, .int 0, .ref y_lane, .ref y_many, .ref y_item, .ref y_city, .ref y_fresh, .int 0, .ref y_tape, .int 1, .int 0, .int 0, .int 0, .int 0, .int 0, .int 0, .int 0, .int 0, .int 0, .int 0, .ref y_cost, .ref y_away, .ref y_fee, .ref y_goesTo, .ref y_priceWas, .ref y_isKept, .ref y_kept, .ref y_trace, .int 0])), (y_tape, .inl (cI, 400, .inl (upd f_14 (1 : Int32).toNatClampNeg (x_21))))] := hD
  generalize (upd f_14 (1 : Int32).toNatClampNeg (x_21)) = f_22 at hP hD
  refine lv_aload_n S.1 S.2.1 dX9_feed_66 rfl (lv_at hl 1 rfl) ?_
  refine lv_dup S.1 S.2.1 dX9_feed_67 rfl ?_
  refine b_get (v := .int 1) S iX9 hK hP 0 rfl rfl 9 (by decide) (by decide +kernel) rfl dX9_feed_68 ?_
  refine lv_iconst (v := 1) S.1 S.2.1 dX9_feed_71 (by decide) ?_
  refine lv_iadd S.1 S.2.1 dX9_feed_72 ?_
  refine lv_topi (fun x_23 ex_23 => ?_)
  have ex_23 : x_23 = 2 := by rw [ex_23]; decide
  subst ex_23
  refine b_put (v := .int 2) S iX9 tyX9 tyX9_ok nmX9 hK hP hD hS 0 rfl rfl 9 (by decide) (by decide +kernel) rfl rfl rfl (Nat.le_of_ble_eq_true rfl) dX9_feed_73 (fun H locs hP hD hS => ?_)
  have hP : va_P D vwCl [(y, .inr (9, [.int 0, .int 0, .ref y_lane, .ref y_many, .ref y_item, .ref y_city, .ref y_fresh, .int 0, .ref y_tape, .int 2, .int 0, .int 0, .int 0, .int 0, .int 0, .int 0, .int 0, .int 0, .int 0, .int 0, .ref y_cost, .ref y_away, .ref y_fee, .ref y_goesTo, .ref y_priceWas, .ref y_isKept, .ref y_kept, .ref y_trace, .int 0])), (y_tape, .inl (cI, 400, .inl f_22))] H := hP
  have hD : va_D A [(y, .inr (9, [.int 0, .int 0, .ref y_lane, .ref y_many, .ref y_item, .ref y_city, .ref y_fresh, .int 0, .ref y_tape, .int 2, .int 0, .int 0, .int 0, .int 0, .int 0, .int 0, .int 0, .int 0, .int 0, .int 0, .ref y_cost, .ref y_away, .ref y_fee, .ref y_goesTo, .ref y_priceWas, .ref y_isKept, .ref y_kept, .ref y_trace, .int 0])), (y_tape, .inl (cI, 400, .inl f_22))] := hD
  refine lv_iinc (v := 3) (lv' := [(4, .int 3), (0, .ref y), (1, .long wv), (3, .int 6)]) S.1 S.2.1 dX9_feed_76 hl (k := 0) rfl (by decide) (by decide) rfl (fun ls hl => ?_)
  refine lv_goto (tgt := 40) S.1 S.2.1 dX9_feed_79 (by decide) ?_
  refine lv_iload S.1 S.2.1 dX9_feed_40 (lv_at hl 0 rfl) ?_
  refine lv_if_lt (tgt := 82) S.1 S.2.1 dX9_feed_42 (by decide) (fun c_24 => absurd c_24 (by decide)) (fun c_24 => ?_)
  refine lv_aload_n S.1 S.2.1 dX9_feed_45 rfl (lv_at hl 1 rfl) ?_
  refine b_get (v := .ref y_tape) S iX9 hK hP 0 rfl rfl 8 (by decide) (by decide +kernel) rfl dX9_feed_46 ?_
  refine lv_aload_n S.1 S.2.1 dX9_feed_49 rfl (lv_at hl 1 rfl) ?_
  refine b_get (v := .int 2) S iX9 hK hP 0 rfl rfl 9 (by decide) (by decide +kernel) rfl dX9_feed_50 ?_
  refine lv_lload_n S.1 S.2.1 dX9_feed_53 rfl (lv_at hl 2 rfl) ?_
  refine lv_bipush (v := 8) S.1 S.2.1 dX9_feed_54 (by decide) ?_
  refine lv_iload S.1 S.2.1 dX9_feed_56 (lv_at hl 0 rfl) ?_
  refine lv_imul S.1 S.2.1 dX9_feed_58 ?_
  refine lv_topi (fun x_25 ex_25 => ?_)
  have ex_25 : x_25 = 24 := by rw [ex_25]; decide
  subst ex_25
  refine lv_lshr S.1 S.2.1 dX9_feed_59 rfl ?_
  refine lv_topl (fun z_26 ez_26 => ?_)
  refine lv_ldc2 (v := (255)) S.1 S.2.1 S.2.2.2.1 (S.2.2.2.2 (.constantLong RX9 84 (255)) (by decide +kernel)) dX9_feed_60 ?_
  refine lv_land S.1 S.2.1 dX9_feed_63 ?_
  refine lv_topl (fun z_27 ez_27 => ?_)
  refine lv_l2i S.1 S.2.1 dX9_feed_64 rfl ?_
  refine lv_topi (fun x_29 ex_29 => ?_)
  refine va_iast S.1 S.2.1 hK.1 hP hD hS 1 0 rfl rfl (by unfold vp_in; decide) dX9_feed_65 (fun H locs hP hD hS => ?_)
  have hP : va_P D vwCl [(y, .inr (9, [.int 0, .int 0, .ref y_lane, .ref y_many, .ref y_item, .ref y_city, .ref y_fresh, .int 0, .ref y_tape, .int 2, .int 0, .int 0, .int 0, .int 0, .int 0, .int 0, .int 0, .int 0, .int 0, .int 0, .ref y_cost, .ref y_away, .ref y_fee, .ref y_goesTo, .ref y_priceWas, .ref y_isKept, .ref y_kept, .ref y_trace, .int 0])), (y_tape, .inl (cI, 400, .inl (upd f_22 (2 : Int32).toNatClampNeg (x_29))))] H := hP
  have hD : va_D A [(y, .inr (9, [.int 0, .int 0, .ref y_lane, .ref y_many, .ref y_item, .ref y_city, .ref y_fresh, .int 0, .ref y_tape, .int 2, .int 0, .int 0, .int 0, .int 0, .int 0, .int 0, .int 0, .int 0, .int 0, .int 0, .ref y_cost, .ref y_away, .ref y_fee, .ref y_goesTo, .ref y_priceWas, .ref y_isKept, .ref y_kept, .ref y_trace, .int 0])), (y_tape, .inl (cI, 400, .inl (upd f_22 (2 : Int32).toNatClampNeg (x_29))))] := hD
  generalize (upd f_22 (2 : Int32).toNatClampNeg (x_29)) = f_30 at hP hD
  refine lv_aload_n S.1 S.2.1 dX9_feed_66 rfl (lv_at hl 1 rfl) ?_
  refine lv_dup S.1 S.2.1 dX9_feed_67 rfl ?_
  refine b_get (v := .int 2) S iX9 hK hP 0 rfl rfl 9 (by decide) (by decide +kernel) rfl dX9_feed_68 ?_
  refine lv_iconst (v := 1) S.1 S.2.1 dX9_feed_71 (by decide) ?_
  refine lv_iadd S.1 S.2.1 dX9_feed_72 ?_
  refine lv_topi (fun x_31 ex_31 => ?_)
  have ex_31 : x_31 = 3 := by rw [ex_31]; decide
  subst ex_31
  refine b_put (v := .int 3) S iX9 tyX9 tyX9_ok nmX9 hK hP hD hS 0 rfl rfl 9 (by decide) (by decide +kernel) rfl rfl rfl (Nat.le_of_ble_eq_true rfl) dX9_feed_73 (fun H locs hP hD hS => ?_)
  have hP : va_P D vwCl [(y, .inr (9, [.int 0, .int 0, .ref y_lane, .ref y_many, .ref y_item, .ref y_city, .ref y_fresh, .int 0, .ref y_tape, .int 3, .int 0, .int 0, .int 0, .int 0, .int 0, .int 0, .int 0, .int 0, .int 0, .int 0, .ref y_cost, .ref y_away, .ref y_fee, .ref y_goesTo, .ref y_priceWas, .ref y_isKept, .ref y_kept, .ref y_trace, .int 0])), (y_tape, .inl (cI, 400, .inl f_30))] H := hP
  have hD : va_D A [(y, .inr (9, [.int 0, .int 0, .ref y_lane, .ref y_many, .ref y_item, .ref y_city, .ref y_fresh, .int 0, .ref y_tape, .int 3, .int 0, .int 0, .int 0, .int 0, .int 0, .int 0, .int 0, .int 0, .int 0, .int 0, .ref y_cost, .ref y_away, .ref y_fee, .ref y_goesTo, .ref y_priceWas, .ref y_isKept, .ref y_kept, .ref y_trace, .int 0])), (y_tape, .inl (cI, 400, .inl f_30))] := hD
  refine lv_iinc (v := 2) (lv' := [(4, .int 2), (0, .ref y), (1, .long wv), (3, .int 6)]) S.1 S.2.1 dX9_feed_76 hl (k := 0) rfl (by decide) (by decide) rfl (fun ls hl => ?_)
  refine lv_goto (tgt := 40) S.1 S.2.1 dX9_feed_79 (by decide) ?_
  refine lv_iload S.1 S.2.1 dX9_feed_40 (lv_at hl 0 rfl) ?_
  refine lv_if_lt (tgt := 82) S.1 S.2.1 dX9_feed_42 (by decide) (fun c_32 => absurd c_32 (by decide)) (fun c_32 => ?_)
  refine lv_aload_n S.1 S.2.1 dX9_feed_45 rfl (lv_at hl 1 rfl) ?_
  refine b_get (v := .ref y_tape) S iX9 hK hP 0 rfl rfl 8 (by decide) (by decide +kernel) rfl dX9_feed_46 ?_
  refine lv_aload_n S.1 S.2.1 dX9_feed_49 rfl (lv_at hl 1 rfl) ?_
  refine b_get (v := .int 3) S iX9 hK hP 0 rfl rfl 9 (by decide) (by decide +kernel) rfl dX9_feed_50 ?_
  refine lv_lload_n S.1 S.2.1 dX9_feed_53 rfl (lv_at hl 2 rfl) ?_
  refine lv_bipush (v := 8) S.1 S.2.1 dX9_feed_54 (by decide) ?_
  refine lv_iload S.1 S.2.1 dX9_feed_56 (lv_at hl 0 rfl) ?_
  refine lv_imul S.1 S.2.1 dX9_feed_58 ?_
  refine lv_topi (fun x_33 ex_33 => ?_)
  have ex_33 : x_33 = 16 := by rw [ex_33]; decide
  subst ex_33
  refine lv_lshr S.1 S.2.1 dX9_feed_59 rfl ?_
  refine lv_topl (fun z_34 ez_34 => ?_)
  refine lv_ldc2 (v := (255)) S.1 S.2.1 S.2.2.2.1 (S.2.2.2.2 (.constantLong RX9 84 (255)) (by decide +kernel)) dX9_feed_60 ?_
  refine lv_land S.1 S.2.1 dX9_feed_63 ?_
  refine lv_topl (fun z_35 ez_35 => ?_)
  refine lv_l2i S.1 S.2.1 dX9_feed_64 rfl ?_
  refine lv_topi (fun x_37 ex_37 => ?_)
  refine va_iast S.1 S.2.1 hK.1 hP hD hS 1 0 rfl rfl (by unfold vp_in; decide) dX9_feed_65 (fun H locs hP hD hS => ?_)
  have hP : va_P D vwCl [(y, .inr (9, [.int 0, .int 0, .ref y_lane, .ref y_many, .ref y_item, .ref y_city, .ref y_fresh, .int 0, .ref y_tape, .int 3, .int 0, .int 0, .int 0, .int 0, .int 0, .int 0, .int 0, .int 0, .int 0, .int 0, .ref y_cost, .ref y_away, .ref y_fee, .ref y_goesTo, .ref y_priceWas, .ref y_isKept, .ref y_kept, .ref y_trace, .int 0])), (y_tape, .inl (cI, 400, .inl (upd f_30 (3 : Int32).toNatClampNeg (x_37))))] H := hP
  have hD : va_D A [(y, .inr (9, [.int 0, .int 0, .ref y_lane, .ref y_many, .ref y_item, .ref y_city, .ref y_fresh, .int 0, .ref y_tape, .int 3, .int 0, .int 0, .int 0, .int 0, .int 0, .int 0, .int 0, .int 0, .int 0, .int 0, .ref y_cost, .ref y_away, .ref y_fee, .ref y_goesTo, .ref y_priceWas, .ref y_isKept, .ref y_kept, .ref y_trace, .int 0])), (y_tape, .inl (cI, 400, .inl (upd f_30 (3 : Int32).toNatClampNeg (x_37))))] := hD
  generalize (upd f_30 (3 : Int32).toNatClampNeg (x_37)) = f_38 at hP hD
  refine lv_aload_n S.1 S.2.1 dX9_feed_66 rfl (lv_at hl 1 rfl) ?_
  refine lv_dup S.1 S.2.1 dX9_feed_67 rfl ?_
  refine b_get (v := .int 3) S iX9 hK hP 0 rfl rfl 9 (by decide) (by decide +kernel) rfl dX9_feed_68 ?_
  refine lv_iconst (v := 1) S.1 S.2.1 dX9_feed_71 (by decide) ?_
  refine lv_iadd S.1 S.2.1 dX9_feed_72 ?_
  refine lv_topi (fun x_39 ex_39 => ?_)
  have ex_39 : x_39 = 4 := by rw [ex_39]; decide
  subst ex_39
  refine b_put (v := .int 4) S iX9 tyX9 tyX9_ok nmX9 hK hP hD hS 0 rfl rfl 9 (by decide) (by decide +kernel) rfl rfl rfl (Nat.le_of_ble_eq_true rfl) dX9_feed_73 (fun H locs hP hD hS => ?_)
  have hP : va_P D vwCl [(y, .inr (9, [.int 0, .int 0, .ref y_lane, .ref y_many, .ref y_item, .ref y_city, .ref y_fresh, .int 0, .ref y_tape, .int 4, .int 0, .int 0, .int 0, .int 0, .int 0, .int 0, .int 0, .int 0, .int 0, .int 0, .ref y_cost, .ref y_away, .ref y_fee, .ref y_goesTo, .ref y_priceWas, .ref y_isKept, .ref y_kept, .ref y_trace, .int 0])), (y_tape, .inl (cI, 400, .inl f_38))] H := hP
  have hD : va_D A [(y, .inr (9, [.int 0, .int 0, .ref y_lane, .ref y_many, .ref y_item, .ref y_city, .ref y_fresh, .int 0, .ref y_tape, .int 4, .int 0, .int 0, .int 0, .int 0, .int 0, .int 0, .int 0, .int 0, .int 0, .int 0, .ref y_cost, .ref y_away, .ref y_fee, .ref y_goesTo, .ref y_priceWas, .ref y_isKept, .ref y_kept, .ref y_trace, .int 0])), (y_tape, .inl (cI, 400, .inl f_38))] := hD
  refine lv_iinc (v := 1) (lv' := [(4, .int 1), (0, .ref y), (1, .long wv), (3, .int 6)]) S.1 S.2.1 dX9_feed_76 hl (k := 0) rfl (by decide) (by decide) rfl (fun ls hl => ?_)
  refine lv_goto (tgt := 40) S.1 S.2.1 dX9_feed_79 (by decide) ?_
  refine lv_iload S.1 S.2.1 dX9_feed_40 (lv_at hl 0 rfl) ?_
  refine lv_if_lt (tgt := 82) S.1 S.2.1 dX9_feed_42 (by decide) (fun c_40 => absurd c_40 (by decide)) (fun c_40 => ?_)
  refine lv_aload_n S.1 S.2.1 dX9_feed_45 rfl (lv_at hl 1 rfl) ?_
  refine b_get (v := .ref y_tape) S iX9 hK hP 0 rfl rfl 8 (by decide) (by decide +kernel) rfl dX9_feed_46 ?_
  refine lv_aload_n S.1 S.2.1 dX9_feed_49 rfl (lv_at hl 1 rfl) ?_
  refine b_get (v := .int 4) S iX9 hK hP 0 rfl rfl 9 (by decide) (by decide +kernel) rfl dX9_feed_50 ?_
  refine lv_lload_n S.1 S.2.1 dX9_feed_53 rfl (lv_at hl 2 rfl) ?_
  refine lv_bipush (v := 8) S.1 S.2.1 dX9_feed_54 (by decide) ?_
  refine lv_iload S.1 S.2.1 dX9_feed_56 (lv_at hl 0 rfl) ?_
  refine lv_imul S.1 S.2.1 dX9_feed_58 ?_
  refine lv_topi (fun x_41 ex_41 => ?_)
  have ex_41 : x_41 = 8 := by rw [ex_41]; decide
  subst ex_41
  refine lv_lshr S.1 S.2.1 dX9_feed_59 rfl ?_
  refine lv_topl (fun z_42 ez_42 => ?_)
  refine lv_ldc2 (v := (255)) S.1 S.2.1 S.2.2.2.1 (S.2.2.2.2 (.constantLong RX9 84 (255)) (by decide +kernel)) dX9_feed_60 ?_
  refine lv_land S.1 S.2.1 dX9_feed_63 ?_
  refine lv_topl (fun z_43 ez_43 => ?_)
  refine lv_l2i S.1 S.2.1 dX9_feed_64 rfl ?_
  refine lv_topi (fun x_45 ex_45 => ?_)
  refine va_iast S.1 S.2.1 hK.1 hP hD hS 1 0 rfl rfl (by unfold vp_in; decide) dX9_feed_65 (fun H locs hP hD hS => ?_)
  have hP : va_P D vwCl [(y, .inr (9, [.int 0, .int 0, .ref y_lane, .ref y_many, .ref y_item, .ref y_city, .ref y_fresh, .int 0, .ref y_tape, .int 4, .int 0, .int 0, .int 0, .int 0, .int 0, .int 0, .int 0, .int 0, .int 0, .int 0, .ref y_cost, .ref y_away, .ref y_fee, .ref y_goesTo, .ref y_priceWas, .ref y_isKept, .ref y_kept, .ref y_trace, .int 0])), (y_tape, .inl (cI, 400, .inl (upd f_38 (4 : Int32).toNatClampNeg (x_45))))] H := hP
  have hD : va_D A [(y, .inr (9, [.int 0, .int 0, .ref y_lane, .ref y_many, .ref y_item, .ref y_city, .ref y_fresh, .int 0, .ref y_tape, .int 4, .int 0, .int 0, .int 0, .int 0, .int 0, .int 0, .int 0, .int 0, .int 0, .int 0, .ref y_cost, .ref y_away, .ref y_fee, .ref y_goesTo, .ref y_priceWas, .ref y_isKept, .ref y_kept, .ref y_trace, .int 0])), (y_tape, .inl (cI, 400, .inl (upd f_38 (4 : Int32).toNatClampNeg (x_45))))] := hD
  generalize (upd f_38 (4 : Int32).toNatClampNeg (x_45)) = f_46 at hP hD
  refine lv_aload_n S.1 S.2.1 dX9_feed_66 rfl (lv_at hl 1 rfl) ?_
  refine lv_dup S.1 S.2.1 dX9_feed_67 rfl ?_
  refine b_get (v := .int 4) S iX9 hK hP 0 rfl rfl 9 (by decide) (by decide +kernel) rfl dX9_feed_68 ?_
  refine lv_iconst (v := 1) S.1 S.2.1 dX9_feed_71 (by decide) ?_
  refine lv_iadd S.1 S.2.1 dX9_feed_72 ?_
  refine lv_topi (fun x_47 ex_47 => ?_)
  have ex_47 : x_47 = 5 := by rw [ex_47]; decide
  subst ex_47
  refine b_put (v := .int 5) S iX9 tyX9 tyX9_ok nmX9 hK hP hD hS 0 rfl rfl 9 (by decide) (by decide +kernel) rfl rfl rfl (Nat.le_of_ble_eq_true rfl) dX9_feed_73 (fun H locs hP hD hS => ?_)
  have hP : va_P D vwCl [(y, .inr (9, [.int 0, .int 0, .ref y_lane, .ref y_many, .ref y_item, .ref y_city, .ref y_fresh, .int 0, .ref y_tape, .int 5, .int 0, .int 0, .int 0, .int 0, .int 0, .int 0, .int 0, .int 0, .int 0, .int 0, .ref y_cost, .ref y_away, .ref y_fee, .ref y_goesTo, .ref y_priceWas, .ref y_isKept, .ref y_kept, .ref y_trace, .int 0])), (y_tape, .inl (cI, 400, .inl f_46))] H := hP
  have hD : va_D A [(y, .inr (9, [.int 0, .int 0, .ref y_lane, .ref y_many, .ref y_item, .ref y_city, .ref y_fresh, .int 0, .ref y_tape, .int 5, .int 0, .int 0, .int 0, .int 0, .int 0, .int 0, .int 0, .int 0, .int 0, .int 0, .ref y_cost, .ref y_away, .ref y_fee, .ref y_goesTo, .ref y_priceWas, .ref y_isKept, .ref y_kept, .ref y_trace, .int 0])), (y_tape, .inl (cI, 400, .inl f_46))] := hD
  refine lv_iinc (v := 0) (lv' := [(4, .int 0), (0, .ref y), (1, .long wv), (3, .int 6)]) S.1 S.2.1 dX9_feed_76 hl (k := 0) rfl (by decide) (by decide) rfl (fun ls hl => ?_)
  refine lv_goto (tgt := 40) S.1 S.2.1 dX9_feed_79 (by decide) ?_
  refine lv_iload S.1 S.2.1 dX9_feed_40 (lv_at hl 0 rfl) ?_
  refine lv_if_lt (tgt := 82) S.1 S.2.1 dX9_feed_42 (by decide) (fun c_48 => absurd c_48 (by decide)) (fun c_48 => ?_)
  refine lv_aload_n S.1 S.2.1 dX9_feed_45 rfl (lv_at hl 1 rfl) ?_
  refine b_get (v := .ref y_tape) S iX9 hK hP 0 rfl rfl 8 (by decide) (by decide +kernel) rfl dX9_feed_46 ?_
  refine lv_aload_n S.1 S.2.1 dX9_feed_49 rfl (lv_at hl 1 rfl) ?_
  refine b_get (v := .int 5) S iX9 hK hP 0 rfl rfl 9 (by decide) (by decide +kernel) rfl dX9_feed_50 ?_
  refine lv_lload_n S.1 S.2.1 dX9_feed_53 rfl (lv_at hl 2 rfl) ?_
  refine lv_bipush (v := 8) S.1 S.2.1 dX9_feed_54 (by decide) ?_
  refine lv_iload S.1 S.2.1 dX9_feed_56 (lv_at hl 0 rfl) ?_
  refine lv_imul S.1 S.2.1 dX9_feed_58 ?_
  refine lv_topi (fun x_49 ex_49 => ?_)
  have ex_49 : x_49 = 0 := by rw [ex_49]; decide
  subst ex_49
  refine lv_lshr S.1 S.2.1 dX9_feed_59 rfl ?_
  refine lv_topl (fun z_50 ez_50 => ?_)
  refine lv_ldc2 (v := (255)) S.1 S.2.1 S.2.2.2.1 (S.2.2.2.2 (.constantLong RX9 84 (255)) (by decide +kernel)) dX9_feed_60 ?_
  refine lv_land S.1 S.2.1 dX9_feed_63 ?_
  refine lv_topl (fun z_51 ez_51 => ?_)
  refine lv_l2i S.1 S.2.1 dX9_feed_64 rfl ?_
  refine lv_topi (fun x_53 ex_53 => ?_)
  refine va_iast S.1 S.2.1 hK.1 hP hD hS 1 0 rfl rfl (by unfold vp_in; decide) dX9_feed_65 (fun H locs hP hD hS => ?_)
  have hP : va_P D vwCl [(y, .inr (9, [.int 0, .int 0, .ref y_lane, .ref y_many, .ref y_item, .ref y_city, .ref y_fresh, .int 0, .ref y_tape, .int 5, .int 0, .int 0, .int 0, .int 0, .int 0, .int 0, .int 0, .int 0, .int 0, .int 0, .ref y_cost, .ref y_away, .ref y_fee, .ref y_goesTo, .ref y_priceWas, .ref y_isKept, .ref y_kept, .ref y_trace, .int 0])), (y_tape, .inl (cI, 400, .inl (upd f_46 (5 : Int32).toNatClampNeg (x_53))))] H := hP
  have hD : va_D A [(y, .inr (9, [.int 0, .int 0, .ref y_lane, .ref y_many, .ref y_item, .ref y_city, .ref y_fresh, .int 0, .ref y_tape, .int 5, .int 0, .int 0, .int 0, .int 0, .int 0, .int 0, .int 0, .int 0, .int 0, .int 0, .ref y_cost, .ref y_away, .ref y_fee, .ref y_goesTo, .ref y_priceWas, .ref y_isKept, .ref y_kept, .ref y_trace, .int 0])), (y_tape, .inl (cI, 400, .inl (upd f_46 (5 : Int32).toNatClampNeg (x_53))))] := hD
  generalize (upd f_46 (5 : Int32).toNatClampNeg (x_53)) = f_54 at hP hD
  refine lv_aload_n S.1 S.2.1 dX9_feed_66 rfl (lv_at hl 1 rfl) ?_
  refine lv_dup S.1 S.2.1 dX9_feed_67 rfl ?_
  refine b_get (v := .int 5) S iX9 hK hP 0 rfl rfl 9 (by decide) (by decide +kernel) rfl dX9_feed_68 ?_
  refine lv_iconst (v := 1) S.1 S.2.1 dX9_feed_71 (by decide) ?_
  refine lv_iadd S.1 S.2.1 dX9_feed_72 ?_
  refine lv_topi (fun x_55 ex_55 => ?_)
  have ex_55 : x_55 = 6 := by rw [ex_55]; decide
  subst ex_55
  refine b_put (v := .int 6) S iX9 tyX9 tyX9_ok nmX9 hK hP hD hS 0 rfl rfl 9 (by decide) (by decide +kernel) rfl rfl rfl (Nat.le_of_ble_eq_true rfl) dX9_feed_73 (fun H locs hP hD hS => ?_)
  have hP : va_P D vwCl [(y, .inr (9, [.int 0, .int 0, .ref y_lane, .ref y_many, .ref y_item, .ref y_city, .ref y_fresh, .int 0, .ref y_tape, .int 6, .int 0, .int 0, .int 0, .int 0, .int 0, .int 0, .int 0, .int 0, .int 0, .int 0, .ref y_cost, .ref y_away, .ref y_fee, .ref y_goesTo, .ref y_priceWas, .ref y_isKept, .ref y_kept, .ref y_trace, .int 0])), (y_tape, .inl (cI, 400, .inl f_54))] H := hP
  have hD : va_D A [(y, .inr (9, [.int 0, .int 0, .ref y_lane, .ref y_many, .ref y_item, .ref y_city, .ref y_fresh, .int 0, .ref y_tape, .int 6, .int 0, .int 0, .int 0, .int 0, .int 0, .int 0, .int 0, .int 0, .int 0, .int 0, .ref y_cost, .ref y_away, .ref y_fee, .ref y_goesTo, .ref y_priceWas, .ref y_isKept, .ref y_kept, .ref y_trace, .int 0])), (y_tape, .inl (cI, 400, .inl f_54))] := hD
  refine lv_iinc (v := (-1)) (lv' := [(4, .int (-1)), (0, .ref y), (1, .long wv), (3, .int 6)]) S.1 S.2.1 dX9_feed_76 hl (k := 0) rfl (by decide) (by decide) rfl (fun ls hl => ?_)
  refine lv_goto (tgt := 40) S.1 S.2.1 dX9_feed_79 (by decide) ?_
  refine lv_iload S.1 S.2.1 dX9_feed_40 (lv_at hl 0 rfl) ?_
  refine lv_if_lt (tgt := 82) S.1 S.2.1 dX9_feed_42 (by decide) (fun c_56 => ?_) (fun c_56 => absurd c_56 (by decide))
  refine lv_aload_n S.1 S.2.1 dX9_feed_82 rfl (lv_at hl 1 rfl) ?_
  refine b_get (v := .int 6) S iX9 hK hP 0 rfl rfl 9 (by decide) (by decide +kernel) rfl dX9_feed_83 ?_
  have hP := hP.sub (ws' := []) [] rfl
  have hD := hD.sub (ws' := []) [] (by decide) rfl
  exact b_iret S.1 S.2.1 X.2.1 X.2.2.1 hP hD hS ⟨rfl, rfl⟩ dX9_feed_86
set_option maxHeartbeats 4000000 in
set_option maxRecDepth 100000 in
theorem c_X9_feed_7 (l : Launch) (D : va_G) (cI cZ cC cS : ClassId) (sq sz : Nat) (y : Nat) (y_lane : Nat) (y_many : Nat) (y_item : Nat) (y_city : Nat) (y_fresh : Nat) (y_tape : Nat) (y_cost : Nat) (y_away : Nat) (y_fee : Nat) (y_goesTo : Nat) (y_priceWas : Nat) (y_isKept : Nat) (y_kept : Nat) (y_trace : Nat) (wv : Int64) (f : Nat → Int32) : mI l yX9_feed wsX9_feed 1 25 D (tyW cI cZ cC cS) sq [(y, .inr (9, [.int 0, .int 0, .ref y_lane, .ref y_many, .ref y_item, .ref y_city, .ref y_fresh, .int 0, .ref y_tape, .int 0, .int 0, .int 0, .int 0, .int 0, .int 0, .int 0, .int 0, .int 0, .int 0, .int 0, .ref y_cost, .ref y_away, .ref y_fee, .ref y_goesTo, .ref y_priceWas, .ref y_isKept, .ref y_kept, .ref y_trace, .int 0])), (y_tape, .inl (cI, 400, .inl f))] sz [.ref y, .long wv, .int 7] (fun r w => r = 7 ∧ w = []) := by
  refine b_metI (cc := cX9_feed) (maxL := 5) (ret := (some .int)) (by decide) rfl (Nat.le_of_ble_eq_true rfl) ?_
  intro p e s m below meth c ls A H X hsz hP hK hD hA hS hl
  have S : CallFix p m c cX9_feed 5 s ([.ref y, .long wv, .int 7] : List Value).toArray wsX9_feed RX9 := X.1
  have hl : lv_has ls 5 [(0, .ref y), (1, .long wv), (3, .int 7)] := hl
  have iX9 := jX9_feed_X9
  refine lv_aload_n S.1 S.2.1 dX9_feed_0 rfl (lv_at hl 0 rfl) ?_
  refine lv_iconst (v := 0) S.1 S.2.1 dX9_feed_1 (by decide) ?_
  refine b_put (v := .int 0) S iX9 tyX9 tyX9_ok nmX9 hK hP hD hS 0 rfl rfl 0 (by decide) (by decide +kernel) rfl rfl rfl (Nat.le_of_ble_eq_true rfl) dX9_feed_2 (fun H locs hP hD hS => ?_)
  have hP : va_P D vwCl [(y, .inr (9, [.int 0, .int 0, .ref y_lane, .ref y_many, .ref y_item, .ref y_city, .ref y_fresh, .int 0, .ref y_tape, .int 0, .int 0, .int 0, .int 0, .int 0, .int 0, .int 0, .int 0, .int 0, .int 0, .int 0, .ref y_cost, .ref y_away, .ref y_fee, .ref y_goesTo, .ref y_priceWas, .ref y_isKept, .ref y_kept, .ref y_trace, .int 0])), (y_tape, .inl (cI, 400, .inl f))] H := hP
  have hD : va_D A [(y, .inr (9, [.int 0, .int 0, .ref y_lane, .ref y_many, .ref y_item, .ref y_city, .ref y_fresh, .int 0, .ref y_tape, .int 0, .int 0, .int 0, .int 0, .int 0, .int 0, .int 0, .int 0, .int 0, .int 0, .int 0, .ref y_cost, .ref y_away, .ref y_fee, .ref y_goesTo, .ref y_priceWas, .ref y_isKept, .ref y_kept, .ref y_trace, .int 0])), (y_tape, .inl (cI, 400, .inl f))] := hD
  refine lv_iload_n S.1 S.2.1 dX9_feed_5 rfl (lv_at hl 2 rfl) ?_
  refine lv_i2l (v := (7)) S.1 S.2.1 dX9_feed_6 (by decide) ?_
  refine lv_lconst (v := 1) S.1 S.2.1 dX9_feed_7 (by decide) ?_
  refine lv_ldc2 (v := (8)) S.1 S.2.1 S.2.2.2.1 (S.2.2.2.2 (.constantLong RX9 78 (8)) (by decide +kernel)) dX9_feed_8 ?_
  refine b_ai (wr := [(y, .inr (9, [.int 0, .int 0, .ref y_lane, .ref y_many, .ref y_item, .ref y_city, .ref y_fresh, .int 0, .ref y_tape, .int 0, .int 0, .int 0, .int 0, .int 0, .int 0, .int 0, .int 0, .int 0, .int 0, .int 0, .ref y_cost, .ref y_away, .ref y_fee, .ref y_goesTo, .ref y_priceWas, .ref y_isKept, .ref y_kept, .ref y_trace, .int 0])), (y_tape, .inl (cI, 400, .inl f))]) (b_runS (As := [.long 7, .long 1, .long 8]) (c_X9_in_t l D cI cZ cC cS sq H.size 7 1 8 (by decide) (by decide)) S gX9_feed_X9_in rfl hdS_X9_in ⟨Nat.le_of_ble_eq_true rfl, Nat.le_of_ble_eq_true rfl⟩ ⟨Nat.le_of_ble_eq_true rfl, Nat.le_of_ble_eq_true rfl⟩ hK hP hD [] rfl (by decide) rfl hl.1 rfl (Nat.le_of_ble_eq_true rfl) dX9_feed_11) hP hD hS hA [] [0, 1] rfl rfl (by decide) (by decide) (fun r_1 w_2 H locs hw_3 hP hD hS => ?_)
  obtain ⟨rfl, rfl⟩ := hw_3
  have hP : va_P D vwCl [(y, .inr (9, [.int 0, .int 0, .ref y_lane, .ref y_many, .ref y_item, .ref y_city, .ref y_fresh, .int 0, .ref y_tape, .int 0, .int 0, .int 0, .int 0, .int 0, .int 0, .int 0, .int 0, .int 0, .int 0, .int 0, .ref y_cost, .ref y_away, .ref y_fee, .ref y_goesTo, .ref y_priceWas, .ref y_isKept, .ref y_kept, .ref y_trace, .int 0])), (y_tape, .inl (cI, 400, .inl f))] H := hP
  have hD : va_D A [(y, .inr (9, [.int 0, .int 0, .ref y_lane, .ref y_many, .ref y_item, .ref y_city, .ref y_fresh, .int 0, .ref y_tape, .int 0, .int 0, .int 0, .int 0, .int 0, .int 0, .int 0, .int 0, .int 0, .int 0, .int 0, .ref y_cost, .ref y_away, .ref y_fee, .ref y_goesTo, .ref y_priceWas, .ref y_isKept, .ref y_kept, .ref y_trace, .int 0])), (y_tape, .inl (cI, 400, .inl f))] := hD
  refine lv_if_ne (tgt := 20) S.1 S.2.1 dX9_feed_14 (by decide) (fun c_4 => ?_) (fun c_4 => absurd c_4 (by decide))
  refine lv_aload_n S.1 S.2.1 dX9_feed_20 rfl (lv_at hl 0 rfl) ?_
  refine b_get (v := .int 0) S iX9 hK hP 0 rfl rfl 9 (by decide) (by decide +kernel) rfl dX9_feed_21 ?_
  refine lv_iload_n S.1 S.2.1 dX9_feed_24 rfl (lv_at hl 2 rfl) ?_
  refine lv_iadd S.1 S.2.1 dX9_feed_25 ?_
  refine lv_topi (fun x_5 ex_5 => ?_)
  have ex_5 : x_5 = 7 := by rw [ex_5]; decide
  subst ex_5
  refine lv_sipush (v := 400) S.1 S.2.1 dX9_feed_26 (by decide) ?_
  refine lv_icmp_le (tgt := 35) S.1 S.2.1 dX9_feed_29 (by decide) (fun c_6 => ?_) (fun c_6 => absurd c_6 (by decide))
  refine lv_iload_n S.1 S.2.1 dX9_feed_35 rfl (lv_at hl 2 rfl) ?_
  refine lv_iconst (v := 1) S.1 S.2.1 dX9_feed_36 (by decide) ?_
  refine lv_isub S.1 S.2.1 dX9_feed_37 ?_
  refine lv_topi (fun x_7 ex_7 => ?_)
  have ex_7 : x_7 = 6 := by rw [ex_7]; decide
  subst ex_7
  refine lv_istore (lv' := [(4, .int 6), (0, .ref y), (1, .long wv), (3, .int 7)]) S.1 S.2.1 dX9_feed_38 hl (by decide) rfl (fun ls hl => ?_)
  refine lv_iload S.1 S.2.1 dX9_feed_40 (lv_at hl 0 rfl) ?_
  refine lv_if_lt (tgt := 82) S.1 S.2.1 dX9_feed_42 (by decide) (fun c_8 => absurd c_8 (by decide)) (fun c_8 => ?_)
  refine lv_aload_n S.1 S.2.1 dX9_feed_45 rfl (lv_at hl 1 rfl) ?_
  refine b_get (v := .ref y_tape) S iX9 hK hP 0 rfl rfl 8 (by decide) (by decide +kernel) rfl dX9_feed_46 ?_
  refine lv_aload_n S.1 S.2.1 dX9_feed_49 rfl (lv_at hl 1 rfl) ?_
  refine b_get (v := .int 0) S iX9 hK hP 0 rfl rfl 9 (by decide) (by decide +kernel) rfl dX9_feed_50 ?_
  refine lv_lload_n S.1 S.2.1 dX9_feed_53 rfl (lv_at hl 2 rfl) ?_
  refine lv_bipush (v := 8) S.1 S.2.1 dX9_feed_54 (by decide) ?_
  refine lv_iload S.1 S.2.1 dX9_feed_56 (lv_at hl 0 rfl) ?_
  refine lv_imul S.1 S.2.1 dX9_feed_58 ?_
  refine lv_topi (fun x_9 ex_9 => ?_)
  have ex_9 : x_9 = 48 := by rw [ex_9]; decide
  subst ex_9
  refine lv_lshr S.1 S.2.1 dX9_feed_59 rfl ?_
  refine lv_topl (fun z_10 ez_10 => ?_)
  refine lv_ldc2 (v := (255)) S.1 S.2.1 S.2.2.2.1 (S.2.2.2.2 (.constantLong RX9 84 (255)) (by decide +kernel)) dX9_feed_60 ?_
  refine lv_land S.1 S.2.1 dX9_feed_63 ?_
  refine lv_topl (fun z_11 ez_11 => ?_)
  refine lv_l2i S.1 S.2.1 dX9_feed_64 rfl ?_
  refine lv_topi (fun x_13 ex_13 => ?_)
  refine va_iast S.1 S.2.1 hK.1 hP hD hS 1 0 rfl rfl (by unfold vp_in; decide) dX9_feed_65 (fun H locs hP hD hS => ?_)
  have hP : va_P D vwCl [(y, .inr (9, [.int 0, .int 0, .ref y_lane, .ref y_many, .ref y_item, .ref y_city, .ref y_fresh, .int 0, .ref y_tape, .int 0, .int 0, .int 0, .int 0, .int 0, .int 0, .int 0, .int 0, .int 0, .int 0, .int 0, .ref y_cost, .ref y_away, .ref y_fee, .ref y_goesTo, .ref y_priceWas, .ref y_isKept, .ref y_kept, .ref y_trace, .int 0])), (y_tape, .inl (cI, 400, .inl (upd f (0 : Int32).toNatClampNeg (x_13))))] H := hP
  have hD : va_D A [(y, .inr (9, [.int 0, .int 0, .ref y_lane, .ref y_many, .ref y_item, .ref y_city, .ref y_fresh, .int 0, .ref y_tape, .int 0, .int 0, .int 0, .int 0, .int 0, .int 0, .int 0, .int 0, .int 0, .int 0, .int 0, .ref y_cost, .ref y_away, .ref y_fee, .ref y_goesTo, .ref y_priceWas, .ref y_isKept, .ref y_kept, .ref y_trace, .int 0])), (y_tape, .inl (cI, 400, .inl (upd f (0 : Int32).toNatClampNeg (x_13))))] := hD
  generalize (upd f (0 : Int32).toNatClampNeg (x_13)) = f_14 at hP hD
  refine lv_aload_n S.1 S.2.1 dX9_feed_66 rfl (lv_at hl 1 rfl) ?_
  refine lv_dup S.1 S.2.1 dX9_feed_67 rfl ?_
  refine b_get (v := .int 0) S iX9 hK hP 0 rfl rfl 9 (by decide) (by decide +kernel) rfl dX9_feed_68 ?_
  refine lv_iconst (v := 1) S.1 S.2.1 dX9_feed_71 (by decide) ?_
  refine lv_iadd S.1 S.2.1 dX9_feed_72 ?_
  refine lv_topi (fun x_15 ex_15 => ?_)
  have ex_15 : x_15 = 1 := by rw [ex_15]; decide
  subst ex_15
  refine b_put (v := .int 1) S iX9 tyX9 tyX9_ok nmX9 hK hP hD hS 0 rfl rfl 9 (by decide) (by decide +kernel) rfl rfl rfl (Nat.le_of_ble_eq_true rfl) dX9_feed_73 (fun H locs hP hD hS => ?_)
  have hP : va_P D vwCl [(y, .inr (9, [.int 0, .int 0, .ref y_lane, .ref y_many, .ref y_item, .ref y_city, .ref y_fresh, .int 0, .ref y_tape, .int 1, .int 0, .int 0, .int 0, .int 0, .int 0, .int 0, .int 0, .int 0, .int 0, .int 0, .ref y_cost, .ref y_away, .ref y_fee, .ref y_goesTo, .ref y_priceWas, .ref y_isKept, .ref y_kept, .ref y_trace, .int 0])), (y_tape, .inl (cI, 400, .inl f_14))] H := hP
  have hD : va_D A [(y, .inr (9, [.int 0, .int 0, .ref y_lane, .ref y_many, .ref y_item, .ref y_city, .ref y_fresh, .int 0, .ref y_tape, .int 1, .int 0, .int 0, .int 0, .int 0, .int 0, .int 0, .int 0, .int 0, .int 0, .int 0, .ref y_cost, .ref y_away, .ref y_fee, .ref y_goesTo, .ref y_priceWas, .ref y_isKept, .ref y_kept, .ref y_trace, .int 0])), (y_tape, .inl (cI, 400, .inl f_14))] := hD
  refine lv_iinc (v := 5) (lv' := [(4, .int 5), (0, .ref y), (1, .long wv), (3, .int 7)]) S.1 S.2.1 dX9_feed_76 hl (k := 0) rfl (by decide) (by decide) rfl (fun ls hl => ?_)
  refine lv_goto (tgt := 40) S.1 S.2.1 dX9_feed_79 (by decide) ?_
  refine lv_iload S.1 S.2.1 dX9_feed_40 (lv_at hl 0 rfl) ?_
  refine lv_if_lt (tgt := 82) S.1 S.2.1 dX9_feed_42 (by decide) (fun c_16 => absurd c_16 (by decide)) (fun c_16 => ?_)
  refine lv_aload_n S.1 S.2.1 dX9_feed_45 rfl (lv_at hl 1 rfl) ?_
  refine b_get (v := .ref y_tape) S iX9 hK hP 0 rfl rfl 8 (by decide) (by decide +kernel) rfl dX9_feed_46 ?_
  refine lv_aload_n S.1 S.2.1 dX9_feed_49 rfl (lv_at hl 1 rfl) ?_
  refine b_get (v := .int 1) S iX9 hK hP 0 rfl rfl 9 (by decide) (by decide +kernel) rfl dX9_feed_50 ?_
  refine lv_lload_n S.1 S.2.1 dX9_feed_53 rfl (lv_at hl 2 rfl) ?_
  refine lv_bipush (v := 8) S.1 S.2.1 dX9_feed_54 (by decide) ?_
  refine lv_iload S.1 S.2.1 dX9_feed_56 (lv_at hl 0 rfl) ?_
  refine lv_imul S.1 S.2.1 dX9_feed_58 ?_
  refine lv_topi (fun x_17 ex_17 => ?_)
  have ex_17 : x_17 = 40 := by rw [ex_17]; decide
  subst ex_17
  refine lv_lshr S.1 S.2.1 dX9_feed_59 rfl ?_
  refine lv_topl (fun z_18 ez_18 => ?_)
  refine lv_ldc2 (v := (255)) S.1 S.2.1 S.2.2.2.1 (S.2.2.2.2 (.constantLong RX9 84 (255)) (by decide +kernel)) dX9_feed_60 ?_
  refine lv_land S.1 S.2.1 dX9_feed_63 ?_
  refine lv_topl (fun z_19 ez_19 => ?_)
  refine lv_l2i S.1 S.2.1 dX9_feed_64 rfl ?_
  refine lv_topi (fun x_21 ex_21 => ?_)
  refine va_iast S.1 S.2.1 hK.1 hP hD hS 1 0 rfl rfl (by unfold vp_in; decide) dX9_feed_65 (fun H locs hP hD hS => ?_)
  have hP : va_P D vwCl [(y, .inr (9, [.int 0, .int 0, .ref y_lane, .ref y_many, .ref y_item, .ref y_city, .ref y_fresh, .int 0, .ref y_tape, .int 1, .int 0, .int 0, .int 0, .int 0, .int 0, .int 0, .int 0, .int 0, .int 0, .int 0, .ref y_cost, .ref y_away, .ref y_fee, .ref y_goesTo, .ref y_priceWas, .ref y_isKept, .ref y_kept, .ref y_trace, .int 0])), (y_tape, .inl (cI, 400, .inl (upd f_14 (1 : Int32).toNatClampNeg (x_21))))] H := hP
  have hD : va_D A [(y, .inr (9, [.int 0, .int 0, .ref y_lane, .ref y_many, .ref y_item, .ref y_city, .ref y_fresh, .int 0, .ref y_tape, .int 1, .int 0, .int 0, .int 0, .int 0, .int 0, .int 0, .int 0, .int 0, .int 0, .int 0, .ref y_cost, .ref y_away, .ref y_fee, .ref y_goesTo, .ref y_priceWas, .ref y_isKept, .ref y_kept, .ref y_trace, .int 0])), (y_tape, .inl (cI, 400, .inl (upd f_14 (1 : Int32).toNatClampNeg (x_21))))] := hD
  generalize (upd f_14 (1 : Int32).toNatClampNeg (x_21)) = f_22 at hP hD
  refine lv_aload_n S.1 S.2.1 dX9_feed_66 rfl (lv_at hl 1 rfl) ?_
  refine lv_dup S.1 S.2.1 dX9_feed_67 rfl ?_
  refine b_get (v := .int 1) S iX9 hK hP 0 rfl rfl 9 (by decide) (by decide +kernel) rfl dX9_feed_68 ?_
  refine lv_iconst (v := 1) S.1 S.2.1 dX9_feed_71 (by decide) ?_
  refine lv_iadd S.1 S.2.1 dX9_feed_72 ?_
  refine lv_topi (fun x_23 ex_23 => ?_)
  have ex_23 : x_23 = 2 := by rw [ex_23]; decide
  subst ex_23
  refine b_put (v := .int 2) S iX9 tyX9 tyX9_ok nmX9 hK hP hD hS 0 rfl rfl 9 (by decide) (by decide +kernel) rfl rfl rfl (Nat.le_of_ble_eq_true rfl) dX9_feed_73 (fun H locs hP hD hS => ?_)
  have hP : va_P D vwCl [(y, .inr (9, [.int 0, .int 0, .ref y_lane, .ref y_many, .ref y_item, .ref y_city, .ref y_fresh, .int 0, .ref y_tape, .int 2, .int 0, .int 0, .int 0, .int 0, .int 0, .int 0, .int 0, .int 0, .int 0, .int 0, .ref y_cost, .ref y_away, .ref y_fee, .ref y_goesTo, .ref y_priceWas, .ref y_isKept, .ref y_kept, .ref y_trace, .int 0])), (y_tape, .inl (cI, 400, .inl f_22))] H := hP
  have hD : va_D A [(y, .inr (9, [.int 0, .int 0, .ref y_lane, .ref y_many, .ref y_item, .ref y_city, .ref y_fresh, .int 0, .ref y_tape, .int 2, .int 0, .int 0, .int 0, .int 0, .int 0, .int 0, .int 0, .int 0, .int 0, .int 0, .ref y_cost, .ref y_away, .ref y_fee, .ref y_goesTo, .ref y_priceWas, .ref y_isKept, .ref y_kept, .ref y_trace, .int 0])), (y_tape, .inl (cI, 400, .inl f_22))] := hD
  refine lv_iinc (v := 4) (lv' := [(4, .int 4), (0, .ref y), (1, .long wv), (3, .int 7)]) S.1 S.2.1 dX9_feed_76 hl (k := 0) rfl (by decide) (by decide) rfl (fun ls hl => ?_)
  refine lv_goto (tgt := 40) S.1 S.2.1 dX9_feed_79 (by decide) ?_
  refine lv_iload S.1 S.2.1 dX9_feed_40 (lv_at hl 0 rfl) ?_
  refine lv_if_lt (tgt := 82) S.1 S.2.1 dX9_feed_42 (by decide) (fun c_24 => absurd c_24 (by decide)) (fun c_24 => ?_)
  refine lv_aload_n S.1 S.2.1 dX9_feed_45 rfl (lv_at hl 1 rfl) ?_
  refine b_get (v := .ref y_tape) S iX9 hK hP 0 rfl rfl 8 (by decide) (by decide +kernel) rfl dX9_feed_46 ?_
  refine lv_aload_n S.1 S.2.1 dX9_feed_49 rfl (lv_at hl 1 rfl) ?_
  refine b_get (v := .int 2) S iX9 hK hP 0 rfl rfl 9 (by decide) (by decide +kernel) rfl dX9_feed_50 ?_
  refine lv_lload_n S.1 S.2.1 dX9_feed_53 rfl (lv_at hl 2 rfl) ?_
  refine lv_bipush (v := 8) S.1 S.2.1 dX9_feed_54 (by decide) ?_
  refine lv_iload S.1 S.2.1 dX9_feed_56 (lv_at hl 0 rfl) ?_
  refine lv_imul S.1 S.2.1 dX9_feed_58 ?_
  refine lv_topi (fun x_25 ex_25 => ?_)
  have ex_25 : x_25 = 32 := by rw [ex_25]; decide
  subst ex_25
  refine lv_lshr S.1 S.2.1 dX9_feed_59 rfl ?_
  refine lv_topl (fun z_26 ez_26 => ?_)
  refine lv_ldc2 (v := (255)) S.1 S.2.1 S.2.2.2.1 (S.2.2.2.2 (.constantLong RX9 84 (255)) (by decide +kernel)) dX9_feed_60 ?_
  refine lv_land S.1 S.2.1 dX9_feed_63 ?_
  refine lv_topl (fun z_27 ez_27 => ?_)
  refine lv_l2i S.1 S.2.1 dX9_feed_64 rfl ?_
  refine lv_topi (fun x_29 ex_29 => ?_)
  refine va_iast S.1 S.2.1 hK.1 hP hD hS 1 0 rfl rfl (by unfold vp_in; decide) dX9_feed_65 (fun H locs hP hD hS => ?_)
  have hP : va_P D vwCl [(y, .inr (9, [.int 0, .int 0, .ref y_lane, .ref y_many, .ref y_item, .ref y_city, .ref y_fresh, .int 0, .ref y_tape, .int 2, .int 0, .int 0, .int 0, .int 0, .int 0, .int 0, .int 0, .int 0, .int 0, .int 0, .ref y_cost, .ref y_away, .ref y_fee, .ref y_goesTo, .ref y_priceWas, .ref y_isKept, .ref y_kept, .ref y_trace, .int 0])), (y_tape, .inl (cI, 400, .inl (upd f_22 (2 : Int32).toNatClampNeg (x_29))))] H := hP
  have hD : va_D A [(y, .inr (9, [.int 0, .int 0, .ref y_lane, .ref y_many, .ref y_item, .ref y_city, .ref y_fresh, .int 0, .ref y_tape, .int 2, .int 0, .int 0, .int 0, .int 0, .int 0, .int 0, .int 0, .int 0, .int 0, .int 0, .ref y_cost, .ref y_away, .ref y_fee, .ref y_goesTo, .ref y_priceWas, .ref y_isKept, .ref y_kept, .ref y_trace, .int 0])), (y_tape, .inl (cI, 400, .inl (upd f_22 (2 : Int32).toNatClampNeg (x_29))))] := hD
  generalize (upd f_22 (2 : Int32).toNatClampNeg (x_29)) = f_30 at hP hD
  refine lv_aload_n S.1 S.2.1 dX9_feed_66 rfl (lv_at hl 1 rfl) ?_
  refine lv_dup S.1 S.2.1 dX9_feed_67 rfl ?_
  refine b_get (v := .int 2) S iX9 hK hP 0 rfl rfl 9 (by decide) (by decide +kernel) rfl dX9_feed_68 ?_
  refine lv_iconst (v := 1) S.1 S.2.1 dX9_feed_71 (by decide) ?_
  refine lv_iadd S.1 S.2.1 dX9_feed_72 ?_
  refine lv_topi (fun x_31 ex_31 => ?_)
  have ex_31 : x_31 = 3 := by rw [ex_31]; decide
  subst ex_31
  refine b_put (v := .int 3) S iX9 tyX9 tyX9_ok nmX9 hK hP hD hS 0 rfl rfl 9 (by decide) (by decide +kernel) rfl rfl rfl (Nat.le_of_ble_eq_true rfl) dX9_feed_73 (fun H locs hP hD hS => ?_)
  have hP : va_P D vwCl [(y, .inr (9, [.int 0, .int 0, .ref y_lane, .ref y_many, .ref y_item, .ref y_city, .ref y_fresh, .int 0, .ref y_tape, .int 3, .int 0, .int 0, .int 0, .int 0, .int 0, .int 0, .int 0, .int 0, .int 0, .int 0, .ref y_cost, .ref y_away, .ref y_fee, .ref y_goesTo, .ref y_priceWas, .ref y_isKept, .ref y_kept, .ref y_trace, .int 0])), (y_tape, .inl (cI, 400, .inl f_30))] H := hP
  have hD : va_D A [(y, .inr (9, [.int 0, .int 0, .ref y_lane, .ref y_many, .ref y_item, .ref y_city, .ref y_fresh, .int 0, .ref y_tape, .int 3, .int 0, .int 0, .int 0, .int 0, .int 0, .int 0, .int 0, .int 0, .int 0, .int 0, .ref y_cost, .ref y_away, .ref y_fee, .ref y_goesTo, .ref y_priceWas, .ref y_isKept, .ref y_kept, .ref y_trace, .int 0])), (y_tape, .inl (cI, 400, .inl f_30))] := hD
  refine lv_iinc (v := 3) (lv' := [(4, .int 3), (0, .ref y), (1, .long wv), (3, .int 7)]) S.1 S.2.1 dX9_feed_76 hl (k := 0) rfl (by decide) (by decide) rfl (fun ls hl => ?_)
  refine lv_goto (tgt := 40) S.1 S.2.1 dX9_feed_79 (by decide) ?_
  refine lv_iload S.1 S.2.1 dX9_feed_40 (lv_at hl 0 rfl) ?_
  refine lv_if_lt (tgt := 82) S.1 S.2.1 dX9_feed_42 (by decide) (fun c_32 => absurd c_32 (by decide)) (fun c_32 => ?_)
  refine lv_aload_n S.1 S.2.1 dX9_feed_45 rfl (lv_at hl 1 rfl) ?_
  refine b_get (v := .ref y_tape) S iX9 hK hP 0 rfl rfl 8 (by decide) (by decide +kernel) rfl dX9_feed_46 ?_
  refine lv_aload_n S.1 S.2.1 dX9_feed_49 rfl (lv_at hl 1 rfl) ?_
  refine b_get (v := .int 3) S iX9 hK hP 0 rfl rfl 9 (by decide) (by decide +kernel) rfl dX9_feed_50 ?_
  refine lv_lload_n S.1 S.2.1 dX9_feed_53 rfl (lv_at hl 2 rfl) ?_
  refine lv_bipush (v := 8) S.1 S.2.1 dX9_feed_54 (by decide) ?_
  refine lv_iload S.1 S.2.1 dX9_feed_56 (lv_at hl 0 rfl) ?_
  refine lv_imul S.1 S.2.1 dX9_feed_58 ?_
  refine lv_topi (fun x_33 ex_33 => ?_)
  have ex_33 : x_33 = 24 := by rw [ex_33]; decide
  subst ex_33
  refine lv_lshr S.1 S.2.1 dX9_feed_59 rfl ?_
  refine lv_topl (fun z_34 ez_34 => ?_)
  refine lv_ldc2 (v := (255)) S.1 S.2.1 S.2.2.2.1 (S.2.2.2.2 (.constantLong RX9 84 (255)) (by decide +kernel)) dX9_feed_60 ?_
  refine lv_land S.1 S.2.1 dX9_feed_63 ?_
  refine lv_topl (fun z_35 ez_35 => ?_)
  refine lv_l2i S.1 S.2.1 dX9_feed_64 rfl ?_
  refine lv_topi (fun x_37 ex_37 => ?_)
  refine va_iast S.1 S.2.1 hK.1 hP hD hS 1 0 rfl rfl (by unfold vp_in; decide) dX9_feed_65 (fun H locs hP hD hS => ?_)
  have hP : va_P D vwCl [(y, .inr (9, [.int 0, .int 0, .ref y_lane, .ref y_many, .ref y_item, .ref y_city, .ref y_fresh, .int 0, .ref y_tape, .int 3, .int 0, .int 0, .int 0, .int 0, .int 0, .int 0, .int 0, .int 0, .int 0, .int 0, .ref y_cost, .ref y_away, .ref y_fee, .ref y_goesTo, .ref y_priceWas, .ref y_isKept, .ref y_kept, .ref y_trace, .int 0])), (y_tape, .inl (cI, 400, .inl (upd f_30 (3 : Int32).toNatClampNeg (x_37))))] H := hP
  have hD : va_D A [(y, .inr (9, [.int 0, .int 0, .ref y_lane, .ref y_many, .ref y_item, .ref y_city, .ref y_fresh, .int 0, .ref y_tape, .int 3, .int 0, .int 0, .int 0, .int 0, .int 0, .int 0, .int 0, .int 0, .int 0, .int 0, .ref y_cost, .ref y_away, .ref y_fee, .ref y_goesTo, .ref y_priceWas, .ref y_isKept, .ref y_kept, .ref y_trace, .int 0])), (y_tape, .inl (cI, 400, .inl (upd f_30 (3 : Int32).toNatClampNeg (x_37))))] := hD
  generalize (upd f_30 (3 : Int32).toNatClampNeg (x_37)) = f_38 at hP hD
  refine lv_aload_n S.1 S.2.1 dX9_feed_66 rfl (lv_at hl 1 rfl) ?_
  refine lv_dup S.1 S.2.1 dX9_feed_67 rfl ?_
  refine b_get (v := .int 3) S iX9 hK hP 0 rfl rfl 9 (by decide) (by decide +kernel) rfl dX9_feed_68 ?_
  refine lv_iconst (v := 1) S.1 S.2.1 dX9_feed_71 (by decide) ?_
  refine lv_iadd S.1 S.2.1 dX9_feed_72 ?_
  refine lv_topi (fun x_39 ex_39 => ?_)
  have ex_39 : x_39 = 4 := by rw [ex_39]; decide
  subst ex_39
  refine b_put (v := .int 4) S iX9 tyX9 tyX9_ok nmX9 hK hP hD hS 0 rfl rfl 9 (by decide) (by decide +kernel) rfl rfl rfl (Nat.le_of_ble_eq_true rfl) dX9_feed_73 (fun H locs hP hD hS => ?_)
  have hP : va_P D vwCl [(y, .inr (9, [.int 0, .int 0, .ref y_lane, .ref y_many, .ref y_item, .ref y_city, .ref y_fresh, .int 0, .ref y_tape, .int 4, .int 0, .int 0, .int 0, .int 0, .int 0, .int 0, .int 0, .int 0, .int 0, .int 0, .ref y_cost, .ref y_away, .ref y_fee, .ref y_goesTo, .ref y_priceWas, .ref y_isKept, .ref y_kept, .ref y_trace, .int 0])), (y_tape, .inl (cI, 400, .inl f_38))] H := hP
  have hD : va_D A [(y, .inr (9, [.int 0, .int 0, .ref y_lane, .ref y_many, .ref y_item, .ref y_city, .ref y_fresh, .int 0, .ref y_tape, .int 4, .int 0, .int 0, .int 0, .int 0, .int 0, .int 0, .int 0, .int 0, .int 0, .int 0, .ref y_cost, .ref y_away, .ref y_fee, .ref y_goesTo, .ref y_priceWas, .ref y_isKept, .ref y_kept, .ref y_trace, .int 0])), (y_tape, .inl (cI, 400, .inl f_38))] := hD
  refine lv_iinc (v := 2) (lv' := [(4, .int 2), (0, .ref y), (1, .long wv), (3, .int 7)]) S.1 S.2.1 dX9_feed_76 hl (k := 0) rfl (by decide) (by decide) rfl (fun ls hl => ?_)
  refine lv_goto (tgt := 40) S.1 S.2.1 dX9_feed_79 (by decide) ?_
  refine lv_iload S.1 S.2.1 dX9_feed_40 (lv_at hl 0 rfl) ?_
  refine lv_if_lt (tgt := 82) S.1 S.2.1 dX9_feed_42 (by decide) (fun c_40 => absurd c_40 (by decide)) (fun c_40 => ?_)
  refine lv_aload_n S.1 S.2.1 dX9_feed_45 rfl (lv_at hl 1 rfl) ?_
  refine b_get (v := .ref y_tape) S iX9 hK hP 0 rfl rfl 8 (by decide) (by decide +kernel) rfl dX9_feed_46 ?_
  refine lv_aload_n S.1 S.2.1 dX9_feed_49 rfl (lv_at hl 1 rfl) ?_
  refine b_get (v := .int 4) S iX9 hK hP 0 rfl rfl 9 (by decide) (by decide +kernel) rfl dX9_feed_50 ?_
  refine lv_lload_n S.1 S.2.1 dX9_feed_53 rfl (lv_at hl 2 rfl) ?_
  refine lv_bipush (v := 8) S.1 S.2.1 dX9_feed_54 (by decide) ?_
  refine lv_iload S.1 S.2.1 dX9_feed_56 (lv_at hl 0 rfl) ?_
  refine lv_imul S.1 S.2.1 dX9_feed_58 ?_
  refine lv_topi (fun x_41 ex_41 => ?_)
  have ex_41 : x_41 = 16 := by rw [ex_41]; decide
  subst ex_41
  refine lv_lshr S.1 S.2.1 dX9_feed_59 rfl ?_
  refine lv_topl (fun z_42 ez_42 => ?_)
  refine lv_ldc2 (v := (255)) S.1 S.2.1 S.2.2.2.1 (S.2.2.2.2 (.constantLong RX9 84 (255)) (by decide +kernel)) dX9_feed_60 ?_
  refine lv_land S.1 S.2.1 dX9_feed_63 ?_
  refine lv_topl (fun z_43 ez_43 => ?_)
  refine lv_l2i S.1 S.2.1 dX9_feed_64 rfl ?_
  refine lv_topi (fun x_45 ex_45 => ?_)
  refine va_iast S.1 S.2.1 hK.1 hP hD hS 1 0 rfl rfl (by unfold vp_in; decide) dX9_feed_65 (fun H locs hP hD hS => ?_)
  have hP : va_P D vwCl [(y, .inr (9, [.int 0, .int 0, .ref y_lane, .ref y_many, .ref y_item, .ref y_city, .ref y_fresh, .int 0, .ref y_tape, .int 4, .int 0, .int 0, .int 0, .int 0, .int 0, .int 0, .int 0, .int 0, .int 0, .int 0, .ref y_cost, .ref y_away, .ref y_fee, .ref y_goesTo, .ref y_priceWas, .ref y_isKept, .ref y_kept, .ref y_trace, .int 0])), (y_tape, .inl (cI, 400, .inl (upd f_38 (4 : Int32).toNatClampNeg (x_45))))] H := hP
  have hD : va_D A [(y, .inr (9, [.int 0, .int 0, .ref y_lane, .ref y_many, .ref y_item, .ref y_city, .ref y_fresh, .int 0, .ref y_tape, .int 4, .int 0, .int 0, .int 0, .int 0, .int 0, .int 0, .int 0, .int 0, .int 0, .int 0, .ref y_cost, .ref y_away, .ref y_fee, .ref y_goesTo, .ref y_priceWas, .ref y_isKept, .ref y_kept, .ref y_trace, .int 0])), (y_tape, .inl (cI, 400, .inl (upd f_38 (4 : Int32).toNatClampNeg (x_45))))] := hD
  generalize (upd f_38 (4 : Int32).toNatClampNeg (x_45)) = f_46 at hP hD
  refine lv_aload_n S.1 S.2.1 dX9_feed_66 rfl (lv_at hl 1 rfl) ?_
  refine lv_dup S.1 S.2.1 dX9_feed_67 rfl ?_
  refine b_get (v := .int 4) S iX9 hK hP 0 rfl rfl 9 (by decide) (by decide +kernel) rfl dX9_feed_68 ?_
  refine lv_iconst (v := 1) S.1 S.2.1 dX9_feed_71 (by decide) ?_
  refine lv_iadd S.1 S.2.1 dX9_feed_72 ?_
  refine lv_topi (fun x_47 ex_47 => ?_)
  have ex_47 : x_47 = 5 := by rw [ex_47]; decide
  subst ex_47
  refine b_put (v := .int 5) S iX9 tyX9 tyX9_ok nmX9 hK hP hD hS 0 rfl rfl 9 (by decide) (by decide +kernel) rfl rfl rfl (Nat.le_of_ble_eq_true rfl) dX9_feed_73 (fun H locs hP hD hS => ?_)
  have hP : va_P D vwCl [(y, .inr (9, [.int 0, .int 0, .ref y_lane, .ref y_many, .ref y_item, .ref y_city, .ref y_fresh, .int 0, .ref y_tape, .int 5, .int 0, .int 0, .int 0, .int 0, .int 0, .int 0, .int 0, .int 0, .int 0, .int 0, .ref y_cost, .ref y_away, .ref y_fee, .ref y_goesTo, .ref y_priceWas, .ref y_isKept, .ref y_kept, .ref y_trace, .int 0])), (y_tape, .inl (cI, 400, .inl f_46))] H := hP
  have hD : va_D A [(y, .inr (9, [.int 0, .int 0, .ref y_lane, .ref y_many, .ref y_item, .ref y_city, .ref y_fresh, .int 0, .ref y_tape, .int 5, .int 0, .int 0, .int 0, .int 0, .int 0, .int 0, .int 0, .int 0, .int 0, .int 0, .ref y_cost, .ref y_away, .ref y_fee, .ref y_goesTo, .ref y_priceWas, .ref y_isKept, .ref y_kept, .ref y_trace, .int 0])), (y_tape, .inl (cI, 400, .inl f_46))] := hD
  refine lv_iinc (v := 1) (lv' := [(4, .int 1), (0, .ref y), (1, .long wv), (3, .int 7)]) S.1 S.2.1 dX9_feed_76 hl (k := 0) rfl (by decide) (by decide) rfl (fun ls hl => ?_)
  refine lv_goto (tgt := 40) S.1 S.2.1 dX9_feed_79 (by decide) ?_
  refine lv_iload S.1 S.2.1 dX9_feed_40 (lv_at hl 0 rfl) ?_
  refine lv_if_lt (tgt := 82) S.1 S.2.1 dX9_feed_42 (by decide) (fun c_48 => absurd c_48 (by decide)) (fun c_48 => ?_)
  refine lv_aload_n S.1 S.2.1 dX9_feed_45 rfl (lv_at hl 1 rfl) ?_
  refine b_get (v := .ref y_tape) S iX9 hK hP 0 rfl rfl 8 (by decide) (by decide +kernel) rfl dX9_feed_46 ?_
  refine lv_aload_n S.1 S.2.1 dX9_feed_49 rfl (lv_at hl 1 rfl) ?_
  refine b_get (v := .int 5) S iX9 hK hP 0 rfl rfl 9 (by decide) (by decide +kernel) rfl dX9_feed_50 ?_
  refine lv_lload_n S.1 S.2.1 dX9_feed_53 rfl (lv_at hl 2 rfl) ?_
  refine lv_bipush (v := 8) S.1 S.2.1 dX9_feed_54 (by decide) ?_
  refine lv_iload S.1 S.2.1 dX9_feed_56 (lv_at hl 0 rfl) ?_
  refine lv_imul S.1 S.2.1 dX9_feed_58 ?_
  refine lv_topi (fun x_49 ex_49 => ?_)
  have ex_49 : x_49 = 8 := by rw [ex_49]; decide
  subst ex_49
  refine lv_lshr S.1 S.2.1 dX9_feed_59 rfl ?_
  refine lv_topl (fun z_50 ez_50 => ?_)
  refine lv_ldc2 (v := (255)) S.1 S.2.1 S.2.2.2.1 (S.2.2.2.2 (.constantLong RX9 84 (255)) (by decide +kernel)) dX9_feed_60 ?_
  refine lv_land S.1 S.2.1 dX9_feed_63 ?_
  refine lv_topl (fun z_51 ez_51 => ?_)
  refine lv_l2i S.1 S.2.1 dX9_feed_64 rfl ?_
  refine lv_topi (fun x_53 ex_53 => ?_)
  refine va_iast S.1 S.2.1 hK.1 hP hD hS 1 0 rfl rfl (by unfold vp_in; decide) dX9_feed_65 (fun H locs hP hD hS => ?_)
  have hP : va_P D vwCl [(y, .inr (9, [.int 0, .int 0, .ref y_lane, .ref y_many, .ref y_item, .ref y_city, .ref y_fresh, .int 0, .ref y_tape, .int 5, .int 0, .int 0, .int 0, .int 0, .int 0, .int 0, .int 0, .int 0, .int 0, .int 0, .ref y_cost, .ref y_away, .ref y_fee, .ref y_goesTo, .ref y_priceWas, .ref y_isKept, .ref y_kept, .ref y_trace, .int 0])), (y_tape, .inl (cI, 400, .inl (upd f_46 (5 : Int32).toNatClampNeg (x_53))))] H := hP
  have hD : va_D A [(y, .inr (9, [.int 0, .int 0, .ref y_lane, .ref y_many, .ref y_item, .ref y_city, .ref y_fresh, .int 0, .ref y_tape, .int 5, .int 0, .int 0, .int 0, .int 0, .int 0, .int 0, .int 0, .int 0, .int 0, .int 0, .ref y_cost, .ref y_away, .ref y_fee, .ref y_goesTo, .ref y_priceWas, .ref y_isKept, .ref y_kept, .ref y_trace, .int 0])), (y_tape, .inl (cI, 400, .inl (upd f_46 (5 : Int32).toNatClampNeg (x_53))))] := hD
  generalize (upd f_46 (5 : Int32).toNatClampNeg (x_53)) = f_54 at hP hD
  refine lv_aload_n S.1 S.2.1 dX9_feed_66 rfl (lv_at hl 1 rfl) ?_
  refine lv_dup S.1 S.2.1 dX9_feed_67 rfl ?_
  refine b_get (v := .int 5) S iX9 hK hP 0 rfl rfl 9 (by decide) (by decide +kernel) rfl dX9_feed_68 ?_
  refine lv_iconst (v := 1) S.1 S.2.1 dX9_feed_71 (by decide) ?_
  refine lv_iadd S.1 S.2.1 dX9_feed_72 ?_
  refine lv_topi (fun x_55 ex_55 => ?_)
  have ex_55 : x_55 = 6 := by rw [ex_55]; decide
  subst ex_55
  refine b_put (v := .int 6) S iX9 tyX9 tyX9_ok nmX9 hK hP hD hS 0 rfl rfl 9 (by decide) (by decide +kernel) rfl rfl rfl (Nat.le_of_ble_eq_true rfl) dX9_feed_73 (fun H locs hP hD hS => ?_)
  have hP : va_P D vwCl [(y, .inr (9, [.int 0, .int 0, .ref y_lane, .ref y_many, .ref y_item, .ref y_city, .ref y_fresh, .int 0, .ref y_tape, .int 6, .int 0, .int 0, .int 0, .int 0, .int 0, .int 0, .int 0, .int 0, .int 0, .int 0, .ref y_cost, .ref y_away, .ref y_fee, .ref y_goesTo, .ref y_priceWas, .ref y_isKept, .ref y_kept, .ref y_trace, .int 0])), (y_tape, .inl (cI, 400, .inl f_54))] H := hP
  have hD : va_D A [(y, .inr (9, [.int 0, .int 0, .ref y_lane, .ref y_many, .ref y_item, .ref y_city, .ref y_fresh, .int 0, .ref y_tape, .int 6, .int 0, .int 0, .int 0, .int 0, .int 0, .int 0, .int 0, .int 0, .int 0, .int 0, .ref y_cost, .ref y_away, .ref y_fee, .ref y_goesTo, .ref y_priceWas, .ref y_isKept, .ref y_kept, .ref y_trace, .int 0])), (y_tape, .inl (cI, 400, .inl f_54))] := hD
  refine lv_iinc (v := 0) (lv' := [(4, .int 0), (0, .ref y), (1, .long wv), (3, .int 7)]) S.1 S.2.1 dX9_feed_76 hl (k := 0) rfl (by decide) (by decide) rfl (fun ls hl => ?_)
  refine lv_goto (tgt := 40) S.1 S.2.1 dX9_feed_79 (by decide) ?_
  refine lv_iload S.1 S.2.1 dX9_feed_40 (lv_at hl 0 rfl) ?_
  refine lv_if_lt (tgt := 82) S.1 S.2.1 dX9_feed_42 (by decide) (fun c_56 => absurd c_56 (by decide)) (fun c_56 => ?_)
  refine lv_aload_n S.1 S.2.1 dX9_feed_45 rfl (lv_at hl 1 rfl) ?_
  refine b_get (v := .ref y_tape) S iX9 hK hP 0 rfl rfl 8 (by decide) (by decide +kernel) rfl dX9_feed_46 ?_
  refine lv_aload_n S.1 S.2.1 dX9_feed_49 rfl (lv_at hl 1 rfl) ?_
  refine b_get (v := .int 6) S iX9 hK hP 0 rfl rfl 9 (by decide) (by decide +kernel) rfl dX9_feed_50 ?_
  refine lv_lload_n S.1 S.2.1 dX9_feed_53 rfl (lv_at hl 2 rfl) ?_
  refine lv_bipush (v := 8) S.1 S.2.1 dX9_feed_54 (by decide) ?_
  refine lv_iload S.1 S.2.1 dX9_feed_56 (lv_at hl 0 rfl) ?_
  refine lv_imul S.1 S.2.1 dX9_feed_58 ?_
  refine lv_topi (fun x_57 ex_57 => ?_)
  have ex_57 : x_57 = 0 := by rw [ex_57]; decide
  subst ex_57
  refine lv_lshr S.1 S.2.1 dX9_feed_59 rfl ?_
  refine lv_topl (fun z_58 ez_58 => ?_)
  refine lv_ldc2 (v := (255)) S.1 S.2.1 S.2.2.2.1 (S.2.2.2.2 (.constantLong RX9 84 (255)) (by decide +kernel)) dX9_feed_60 ?_
  refine lv_land S.1 S.2.1 dX9_feed_63 ?_
  refine lv_topl (fun z_59 ez_59 => ?_)
  refine lv_l2i S.1 S.2.1 dX9_feed_64 rfl ?_
  refine lv_topi (fun x_61 ex_61 => ?_)
  refine va_iast S.1 S.2.1 hK.1 hP hD hS 1 0 rfl rfl (by unfold vp_in; decide) dX9_feed_65 (fun H locs hP hD hS => ?_)
  have hP : va_P D vwCl [(y, .inr (9, [.int 0, .int 0, .ref y_lane, .ref y_many, .ref y_item, .ref y_city, .ref y_fresh, .int 0, .ref y_tape, .int 6, .int 0, .int 0, .int 0, .int 0, .int 0, .int 0, .int 0, .int 0, .int 0, .int 0, .ref y_cost, .ref y_away, .ref y_fee, .ref y_goesTo, .ref y_priceWas, .ref y_isKept, .ref y_kept, .ref y_trace, .int 0])), (y_tape, .inl (cI, 400, .inl (upd f_54 (6 : Int32).toNatClampNeg (x_61))))] H := hP
  have hD : va_D A [(y, .inr (9, [.int 0, .int 0, .ref y_lane, .ref y_many, .ref y_item, .ref y_city, .ref y_fresh, .int 0, .ref y_tape, .int 6, .int 0, .int 0, .int 0, .int 0, .int 0, .int 0, .int 0, .int 0, .int 0, .int 0, .ref y_cost, .ref y_away, .ref y_fee, .ref y_goesTo, .ref y_priceWas, .ref y_isKept, .ref y_kept, .ref y_trace, .int 0])), (y_tape, .inl (cI, 400, .inl (upd f_54 (6 : Int32).toNatClampNeg (x_61))))] := hD
  generalize (upd f_54 (6 : Int32).toNatClampNeg (x_61)) = f_62 at hP hD
  refine lv_aload_n S.1 S.2.1 dX9_feed_66 rfl (lv_at hl 1 rfl) ?_
  refine lv_dup S.1 S.2.1 dX9_feed_67 rfl ?_
  refine b_get (v := .int 6) S iX9 hK hP 0 rfl rfl 9 (by decide) (by decide +kernel) rfl dX9_feed_68 ?_
  refine lv_iconst (v := 1) S.1 S.2.1 dX9_feed_71 (by decide) ?_
  refine lv_iadd S.1 S.2.1 dX9_feed_72 ?_
  refine lv_topi (fun x_63 ex_63 => ?_)
  have ex_63 : x_63 = 7 := by rw [ex_63]; decide
  subst ex_63
  refine b_put (v := .int 7) S iX9 tyX9 tyX9_ok nmX9 hK hP hD hS 0 rfl rfl 9 (by decide) (by decide +kernel) rfl rfl rfl (Nat.le_of_ble_eq_true rfl) dX9_feed_73 (fun H locs hP hD hS => ?_)
  have hP : va_P D vwCl [(y, .inr (9, [.int 0, .int 0, .ref y_lane, .ref y_many, .ref y_item, .ref y_city, .ref y_fresh, .int 0, .ref y_tape, .int 7, .int 0, .int 0, .int 0, .int 0, .int 0, .int 0, .int 0, .int 0, .int 0, .int 0, .ref y_cost, .ref y_away, .ref y_fee, .ref y_goesTo, .ref y_priceWas, .ref y_isKept, .ref y_kept, .ref y_trace, .int 0])), (y_tape, .inl (cI, 400, .inl f_62))] H := hP
  have hD : va_D A [(y, .inr (9, [.int 0, .int 0, .ref y_lane, .ref y_many, .ref y_item, .ref y_city, .ref y_fresh, .int 0, .ref y_tape, .int 7, .int 0, .int 0, .int 0, .int 0, .int 0, .int 0, .int 0, .int 0, .int 0, .int 0, .ref y_cost, .ref y_away, .ref y_fee, .ref y_goesTo, .ref y_priceWas, .ref y_isKept, .ref y_kept, .ref y_trace, .int 0])), (y_tape, .inl (cI, 400, .inl f_62))] := hD
  refine lv_iinc (v := (-1)) (lv' := [(4, .int (-1)), (0, .ref y), (1, .long wv), (3, .int 7)]) S.1 S.2.1 dX9_feed_76 hl (k := 0) rfl (by decide) (by decide) rfl (fun ls hl => ?_)
  refine lv_goto (tgt := 40) S.1 S.2.1 dX9_feed_79 (by decide) ?_
  refine lv_iload S.1 S.2.1 dX9_feed_40 (lv_at hl 0 rfl) ?_
  refine lv_if_lt (tgt := 82) S.1 S.2.1 dX9_feed_42 (by decide) (fun c_64 => ?_) (fun c_64 => absurd c_64 (by decide))
  refine lv_aload_n S.1 S.2.1 dX9_feed_82 rfl (lv_at hl 1 rfl) ?_
  refine b_get (v := .int 7) S iX9 hK hP 0 rfl rfl 9 (by decide) (by decide +kernel) rfl dX9_feed_83 ?_
  have hP := hP.sub (ws' := []) [] rfl
  have hD := hD.sub (ws' := []) [] (by decide) rfl
  exact b_iret S.1 S.2.1 X.2.1 X.2.2.1 hP hD hS ⟨rfl, rfl⟩ dX9_feed_86
set_option maxHeartbeats 4000000 in
set_option maxRecDepth 100000 in
theorem c_X9_feed_8 (l : Launch) (D : va_G) (cI cZ cC cS : ClassId) (sq sz : Nat) (y : Nat) (y_lane : Nat) (y_many : Nat) (y_item : Nat) (y_city : Nat) (y_fresh : Nat) (y_tape : Nat) (y_cost : Nat) (y_away : Nat) (y_fee : Nat) (y_goesTo : Nat) (y_priceWas : Nat) (y_isKept : Nat) (y_kept : Nat) (y_trace : Nat) (wv : Int64) (f : Nat → Int32) : mI l yX9_feed wsX9_feed 1 25 D (tyW cI cZ cC cS) sq [(y, .inr (9, [.int 0, .int 0, .ref y_lane, .ref y_many, .ref y_item, .ref y_city, .ref y_fresh, .int 0, .ref y_tape, .int 0, .int 0, .int 0, .int 0, .int 0, .int 0, .int 0, .int 0, .int 0, .int 0, .int 0, .ref y_cost, .ref y_away, .ref y_fee, .ref y_goesTo, .ref y_priceWas, .ref y_isKept, .ref y_kept, .ref y_trace, .int 0])), (y_tape, .inl (cI, 400, .inl f))] sz [.ref y, .long wv, .int 8] (fun r w => r = 8 ∧ w = []) := by
  refine b_metI (cc := cX9_feed) (maxL := 5) (ret := (some .int)) (by decide) rfl (Nat.le_of_ble_eq_true rfl) ?_
  intro p e s m below meth c ls A H X hsz hP hK hD hA hS hl
  have S : CallFix p m c cX9_feed 5 s ([.ref y, .long wv, .int 8] : List Value).toArray wsX9_feed RX9 := X.1
  have hl : lv_has ls 5 [(0, .ref y), (1, .long wv), (3, .int 8)] := hl
  have iX9 := jX9_feed_X9
  refine lv_aload_n S.1 S.2.1 dX9_feed_0 rfl (lv_at hl 0 rfl) ?_
  refine lv_iconst (v := 0) S.1 S.2.1 dX9_feed_1 (by decide) ?_
  refine b_put (v := .int 0) S iX9 tyX9 tyX9_ok nmX9 hK hP hD hS 0 rfl rfl 0 (by decide) (by decide +kernel) rfl rfl rfl (Nat.le_of_ble_eq_true rfl) dX9_feed_2 (fun H locs hP hD hS => ?_)
  have hP : va_P D vwCl [(y, .inr (9, [.int 0, .int 0, .ref y_lane, .ref y_many, .ref y_item, .ref y_city, .ref y_fresh, .int 0, .ref y_tape, .int 0, .int 0, .int 0, .int 0, .int 0, .int 0, .int 0, .int 0, .int 0, .int 0, .int 0, .ref y_cost, .ref y_away, .ref y_fee, .ref y_goesTo, .ref y_priceWas, .ref y_isKept, .ref y_kept, .ref y_trace, .int 0])), (y_tape, .inl (cI, 400, .inl f))] H := hP
  have hD : va_D A [(y, .inr (9, [.int 0, .int 0, .ref y_lane, .ref y_many, .ref y_item, .ref y_city, .ref y_fresh, .int 0, .ref y_tape, .int 0, .int 0, .int 0, .int 0, .int 0, .int 0, .int 0, .int 0, .int 0, .int 0, .int 0, .ref y_cost, .ref y_away, .ref y_fee, .ref y_goesTo, .ref y_priceWas, .ref y_isKept, .ref y_kept, .ref y_trace, .int 0])), (y_tape, .inl (cI, 400, .inl f))] := hD
  refine lv_iload_n S.1 S.2.1 dX9_feed_5 rfl (lv_at hl 2 rfl) ?_
  refine lv_i2l (v := (8)) S.1 S.2.1 dX9_feed_6 (by decide) ?_
  refine lv_lconst (v := 1) S.1 S.2.1 dX9_feed_7 (by decide) ?_
  refine lv_ldc2 (v := (8)) S.1 S.2.1 S.2.2.2.1 (S.2.2.2.2 (.constantLong RX9 78 (8)) (by decide +kernel)) dX9_feed_8 ?_
  refine b_ai (wr := [(y, .inr (9, [.int 0, .int 0, .ref y_lane, .ref y_many, .ref y_item, .ref y_city, .ref y_fresh, .int 0, .ref y_tape, .int 0, .int 0, .int 0, .int 0, .int 0, .int 0, .int 0, .int 0, .int 0, .int 0, .int 0, .ref y_cost, .ref y_away, .ref y_fee, .ref y_goesTo, .ref y_priceWas, .ref y_isKept, .ref y_kept, .ref y_trace, .int 0])), (y_tape, .inl (cI, 400, .inl f))]) (b_runS (As := [.long 8, .long 1, .long 8]) (c_X9_in_t l D cI cZ cC cS sq H.size 8 1 8 (by decide) (by decide)) S gX9_feed_X9_in rfl hdS_X9_in ⟨Nat.le_of_ble_eq_true rfl, Nat.le_of_ble_eq_true rfl⟩ ⟨Nat.le_of_ble_eq_true rfl, Nat.le_of_ble_eq_true rfl⟩ hK hP hD [] rfl (by decide) rfl hl.1 rfl (Nat.le_of_ble_eq_true rfl) dX9_feed_11) hP hD hS hA [] [0, 1] rfl rfl (by decide) (by decide) (fun r_1 w_2 H locs hw_3 hP hD hS => ?_)
  obtain ⟨rfl, rfl⟩ := hw_3
  have hP : va_P D vwCl [(y, .inr (9, [.int 0, .int 0, .ref y_lane, .ref y_many, .ref y_item, .ref y_city, .ref y_fresh, .int 0, .ref y_tape, .int 0, .int 0, .int 0, .int 0, .int 0, .int 0, .int 0, .int 0, .int 0, .int 0, .int 0, .ref y_cost, .ref y_away, .ref y_fee, .ref y_goesTo, .ref y_priceWas, .ref y_isKept, .ref y_kept, .ref y_trace, .int 0])), (y_tape, .inl (cI, 400, .inl f))] H := hP
  have hD : va_D A [(y, .inr (9, [.int 0, .int 0, .ref y_lane, .ref y_many, .ref y_item, .ref y_city, .ref y_fresh, .int 0, .ref y_tape, .int 0, .int 0, .int 0, .int 0, .int 0, .int 0, .int 0, .int 0, .int 0, .int 0, .int 0, .ref y_cost, .ref y_away, .ref y_fee, .ref y_goesTo, .ref y_priceWas, .ref y_isKept, .ref y_kept, .ref y_trace, .int 0])), (y_tape, .inl (cI, 400, .inl f))] := hD
  refine lv_if_ne (tgt := 20) S.1 S.2.1 dX9_feed_14 (by decide) (fun c_4 => ?_) (fun c_4 => absurd c_4 (by decide))
  refine lv_aload_n S.1 S.2.1 dX9_feed_20 rfl (lv_at hl 0 rfl) ?_
  refine b_get (v := .int 0) S iX9 hK hP 0 rfl rfl 9 (by decide) (by decide +kernel) rfl dX9_feed_21 ?_
  refine lv_iload_n S.1 S.2.1 dX9_feed_24 rfl (lv_at hl 2 rfl) ?_
  refine lv_iadd S.1 S.2.1 dX9_feed_25 ?_
  refine lv_topi (fun x_5 ex_5 => ?_)
  have ex_5 : x_5 = 8 := by rw [ex_5]; decide
  subst ex_5
  refine lv_sipush (v := 400) S.1 S.2.1 dX9_feed_26 (by decide) ?_
  refine lv_icmp_le (tgt := 35) S.1 S.2.1 dX9_feed_29 (by decide) (fun c_6 => ?_) (fun c_6 => absurd c_6 (by decide))
  refine lv_iload_n S.1 S.2.1 dX9_feed_35 rfl (lv_at hl 2 rfl) ?_
  refine lv_iconst (v := 1) S.1 S.2.1 dX9_feed_36 (by decide) ?_
  refine lv_isub S.1 S.2.1 dX9_feed_37 ?_
  refine lv_topi (fun x_7 ex_7 => ?_)
  have ex_7 : x_7 = 7 := by rw [ex_7]; decide
  subst ex_7
  refine lv_istore (lv' := [(4, .int 7), (0, .ref y), (1, .long wv), (3, .int 8)]) S.1 S.2.1 dX9_feed_38 hl (by decide) rfl (fun ls hl => ?_)
  refine lv_iload S.1 S.2.1 dX9_feed_40 (lv_at hl 0 rfl) ?_
  refine lv_if_lt (tgt := 82) S.1 S.2.1 dX9_feed_42 (by decide) (fun c_8 => absurd c_8 (by decide)) (fun c_8 => ?_)
  refine lv_aload_n S.1 S.2.1 dX9_feed_45 rfl (lv_at hl 1 rfl) ?_
  refine b_get (v := .ref y_tape) S iX9 hK hP 0 rfl rfl 8 (by decide) (by decide +kernel) rfl dX9_feed_46 ?_
  refine lv_aload_n S.1 S.2.1 dX9_feed_49 rfl (lv_at hl 1 rfl) ?_
  refine b_get (v := .int 0) S iX9 hK hP 0 rfl rfl 9 (by decide) (by decide +kernel) rfl dX9_feed_50 ?_
  refine lv_lload_n S.1 S.2.1 dX9_feed_53 rfl (lv_at hl 2 rfl) ?_
  refine lv_bipush (v := 8) S.1 S.2.1 dX9_feed_54 (by decide) ?_
  refine lv_iload S.1 S.2.1 dX9_feed_56 (lv_at hl 0 rfl) ?_
  refine lv_imul S.1 S.2.1 dX9_feed_58 ?_
  refine lv_topi (fun x_9 ex_9 => ?_)
  have ex_9 : x_9 = 56 := by rw [ex_9]; decide
  subst ex_9
  refine lv_lshr S.1 S.2.1 dX9_feed_59 rfl ?_
  refine lv_topl (fun z_10 ez_10 => ?_)
  refine lv_ldc2 (v := (255)) S.1 S.2.1 S.2.2.2.1 (S.2.2.2.2 (.constantLong RX9 84 (255)) (by decide +kernel)) dX9_feed_60 ?_
  refine lv_land S.1 S.2.1 dX9_feed_63 ?_
  refine lv_topl (fun z_11 ez_11 => ?_)
  refine lv_l2i S.1 S.2.1 dX9_feed_64 rfl ?_
  refine lv_topi (fun x_13 ex_13 => ?_)
  refine va_iast S.1 S.2.1 hK.1 hP hD hS 1 0 rfl rfl (by unfold vp_in; decide) dX9_feed_65 (fun H locs hP hD hS => ?_)
  have hP : va_P D vwCl [(y, .inr (9, [.int 0, .int 0, .ref y_lane, .ref y_many, .ref y_item, .ref y_city, .ref y_fresh, .int 0, .ref y_tape, .int 0, .int 0, .int 0, .int 0, .int 0, .int 0, .int 0, .int 0, .int 0, .int 0, .int 0, .ref y_cost, .ref y_away, .ref y_fee, .ref y_goesTo, .ref y_priceWas, .ref y_isKept, .ref y_kept, .ref y_trace, .int 0])), (y_tape, .inl (cI, 400, .inl (upd f (0 : Int32).toNatClampNeg (x_13))))] H := hP
  have hD : va_D A [(y, .inr (9, [.int 0, .int 0, .ref y_lane, .ref y_many, .ref y_item, .ref y_city, .ref y_fresh, .int 0, .ref y_tape, .int 0, .int 0, .int 0, .int 0, .int 0, .int 0, .int 0, .int 0, .int 0, .int 0, .int 0, .ref y_cost, .ref y_away, .ref y_fee, .ref y_goesTo, .ref y_priceWas, .ref y_isKept, .ref y_kept, .ref y_trace, .int 0])), (y_tape, .inl (cI, 400, .inl (upd f (0 : Int32).toNatClampNeg (x_13))))] := hD
  generalize (upd f (0 : Int32).toNatClampNeg (x_13)) = f_14 at hP hD
  refine lv_aload_n S.1 S.2.1 dX9_feed_66 rfl (lv_at hl 1 rfl) ?_
  refine lv_dup S.1 S.2.1 dX9_feed_67 rfl ?_
  refine b_get (v := .int 0) S iX9 hK hP 0 rfl rfl 9 (by decide) (by decide +kernel) rfl dX9_feed_68 ?_
  refine lv_iconst (v := 1) S.1 S.2.1 dX9_feed_71 (by decide) ?_
  refine lv_iadd S.1 S.2.1 dX9_feed_72 ?_
  refine lv_topi (fun x_15 ex_15 => ?_)
  have ex_15 : x_15 = 1 := by rw [ex_15]; decide
  subst ex_15
  refine b_put (v := .int 1) S iX9 tyX9 tyX9_ok nmX9 hK hP hD hS 0 rfl rfl 9 (by decide) (by decide +kernel) rfl rfl rfl (Nat.le_of_ble_eq_true rfl) dX9_feed_73 (fun H locs hP hD hS => ?_)
  have hP : va_P D vwCl [(y, .inr (9, [.int 0, .int 0, .ref y_lane, .ref y_many, .ref y_item, .ref y_city, .ref y_fresh, .int 0, .ref y_tape, .int 1, .int 0, .int 0, .int 0, .int 0, .int 0, .int 0, .int 0, .int 0, .int 0, .int 0, .ref y_cost, .ref y_away, .ref y_fee, .ref y_goesTo, .ref y_priceWas, .ref y_isKept, .ref y_kept, .ref y_trace, .int 0])), (y_tape, .inl (cI, 400, .inl f_14))] H := hP
  have hD : va_D A [(y, .inr (9, [.int 0, .int 0, .ref y_lane, .ref y_many, .ref y_item, .ref y_city, .ref y_fresh, .int 0, .ref y_tape, .int 1, .int 0, .int 0, .int 0, .int 0, .int 0, .int 0, .int 0, .int 0, .int 0, .int 0, .ref y_cost, .ref y_away, .ref y_fee, .ref y_goesTo, .ref y_priceWas, .ref y_isKept, .ref y_kept, .ref y_trace, .int 0])), (y_tape, .inl (cI, 400, .inl f_14))] := hD
  refine lv_iinc (v := 6) (lv' := [(4, .int 6), (0, .ref y), (1, .long wv), (3, .int 8)]) S.1 S.2.1 dX9_feed_76 hl (k := 0) rfl (by decide) (by decide) rfl (fun ls hl => ?_)
  refine lv_goto (tgt := 40) S.1 S.2.1 dX9_feed_79 (by decide) ?_
  refine lv_iload S.1 S.2.1 dX9_feed_40 (lv_at hl 0 rfl) ?_
  refine lv_if_lt (tgt := 82) S.1 S.2.1 dX9_feed_42 (by decide) (fun c_16 => absurd c_16 (by decide)) (fun c_16 => ?_)
  refine lv_aload_n S.1 S.2.1 dX9_feed_45 rfl (lv_at hl 1 rfl) ?_
  refine b_get (v := .ref y_tape) S iX9 hK hP 0 rfl rfl 8 (by decide) (by decide +kernel) rfl dX9_feed_46 ?_
  refine lv_aload_n S.1 S.2.1 dX9_feed_49 rfl (lv_at hl 1 rfl) ?_
  refine b_get (v := .int 1) S iX9 hK hP 0 rfl rfl 9 (by decide) (by decide +kernel) rfl dX9_feed_50 ?_
  refine lv_lload_n S.1 S.2.1 dX9_feed_53 rfl (lv_at hl 2 rfl) ?_
  refine lv_bipush (v := 8) S.1 S.2.1 dX9_feed_54 (by decide) ?_
  refine lv_iload S.1 S.2.1 dX9_feed_56 (lv_at hl 0 rfl) ?_
  refine lv_imul S.1 S.2.1 dX9_feed_58 ?_
  refine lv_topi (fun x_17 ex_17 => ?_)
  have ex_17 : x_17 = 48 := by rw [ex_17]; decide
  subst ex_17
  refine lv_lshr S.1 S.2.1 dX9_feed_59 rfl ?_
  refine lv_topl (fun z_18 ez_18 => ?_)
  refine lv_ldc2 (v := (255)) S.1 S.2.1 S.2.2.2.1 (S.2.2.2.2 (.constantLong RX9 84 (255)) (by decide +kernel)) dX9_feed_60 ?_
  refine lv_land S.1 S.2.1 dX9_feed_63 ?_
  refine lv_topl (fun z_19 ez_19 => ?_)
  refine lv_l2i S.1 S.2.1 dX9_feed_64 rfl ?_
  refine lv_topi (fun x_21 ex_21 => ?_)
  refine va_iast S.1 S.2.1 hK.1 hP hD hS 1 0 rfl rfl (by unfold vp_in; decide) dX9_feed_65 (fun H locs hP hD hS => ?_)
  have hP : va_P D vwCl [(y, .inr (9, [.int 0, .int 0, .ref y_lane, .ref y_many, .ref y_item, .ref y_city, .ref y_fresh, .int 0, .ref y_tape, .int 1, .int 0, .int 0, .int 0, .int 0, .int 0, .int 0, .int 0, .int 0, .int 0, .int 0, .ref y_cost, .ref y_away, .ref y_fee, .ref y_goesTo, .ref y_priceWas, .ref y_isKept, .ref y_kept, .ref y_trace, .int 0])), (y_tape, .inl (cI, 400, .inl (upd f_14 (1 : Int32).toNatClampNeg (x_21))))] H := hP
  have hD : va_D A [(y, .inr (9, [.int 0, .int 0, .ref y_lane, .ref y_many, .ref y_item, .ref y_city, .ref y_fresh, .int 0, .ref y_tape, .int 1, .int 0, .int 0, .int 0, .int 0, .int 0, .int 0, .int 0, .int 0, .int 0, .int 0, .ref y_cost, .ref y_away, .ref y_fee, .ref y_goesTo, .ref y_priceWas, .ref y_isKept, .ref y_kept, .ref y_trace, .int 0])), (y_tape, .inl (cI, 400, .inl (upd f_14 (1 : Int32).toNatClampNeg (x_21))))] := hD
  generalize (upd f_14 (1 : Int32).toNatClampNeg (x_21)) = f_22 at hP hD
  refine lv_aload_n S.1 S.2.1 dX9_feed_66 rfl (lv_at hl 1 rfl) ?_
  refine lv_dup S.1 S.2.1 dX9_feed_67 rfl ?_
  refine b_get (v := .int 1) S iX9 hK hP 0 rfl rfl 9 (by decide) (by decide +kernel) rfl dX9_feed_68 ?_
  refine lv_iconst (v := 1) S.1 S.2.1 dX9_feed_71 (by decide) ?_
  refine lv_iadd S.1 S.2.1 dX9_feed_72 ?_
  refine lv_topi (fun x_23 ex_23 => ?_)
  have ex_23 : x_23 = 2 := by rw [ex_23]; decide
  subst ex_23
  refine b_put (v := .int 2) S iX9 tyX9 tyX9_ok nmX9 hK hP hD hS 0 rfl rfl 9 (by decide) (by decide +kernel) rfl rfl rfl (Nat.le_of_ble_eq_true rfl) dX9_feed_73 (fun H locs hP hD hS => ?_)
  have hP : va_P D vwCl [(y, .inr (9, [.int 0, .int 0, .ref y_lane, .ref y_many, .ref y_item, .ref y_city, .ref y_fresh, .int 0, .ref y_tape, .int 2, .int 0, .int 0, .int 0, .int 0, .int 0, .int 0, .int 0, .int 0, .int 0, .int 0, .ref y_cost, .ref y_away, .ref y_fee, .ref y_goesTo, .ref y_priceWas, .ref y_isKept, .ref y_kept, .ref y_trace, .int 0])), (y_tape, .inl (cI, 400, .inl f_22))] H := hP
  have hD : va_D A [(y, .inr (9, [.int 0, .int 0, .ref y_lane, .ref y_many, .ref y_item, .ref y_city, .ref y_fresh, .int 0, .ref y_tape, .int 2, .int 0, .int 0, .int 0, .int 0, .int 0, .int 0, .int 0, .int 0, .int 0, .int 0, .ref y_cost, .ref y_away, .ref y_fee, .ref y_goesTo, .ref y_priceWas, .ref y_isKept, .ref y_kept, .ref y_trace, .int 0])), (y_tape, .inl (cI, 400, .inl f_22))] := hD
  refine lv_iinc (v := 5) (lv' := [(4, .int 5), (0, .ref y), (1, .long wv), (3, .int 8)]) S.1 S.2.1 dX9_feed_76 hl (k := 0) rfl (by decide) (by decide) rfl (fun ls hl => ?_)
  refine lv_goto (tgt := 40) S.1 S.2.1 dX9_feed_79 (by decide) ?_
  refine lv_iload S.1 S.2.1 dX9_feed_40 (lv_at hl 0 rfl) ?_
  refine lv_if_lt (tgt := 82) S.1 S.2.1 dX9_feed_42 (by decide) (fun c_24 => absurd c_24 (by decide)) (fun c_24 => ?_)
  refine lv_aload_n S.1 S.2.1 dX9_feed_45 rfl (lv_at hl 1 rfl) ?_
  refine b_get (v := .ref y_tape) S iX9 hK hP 0 rfl rfl 8 (by decide) (by decide +kernel) rfl dX9_feed_46 ?_
  refine lv_aload_n S.1 S.2.1 dX9_feed_49 rfl (lv_at hl 1 rfl) ?_
  refine b_get (v := .int 2) S iX9 hK hP 0 rfl rfl 9 (by decide) (by decide +kernel) rfl dX9_feed_50 ?_
  refine lv_lload_n S.1 S.2.1 dX9_feed_53 rfl (lv_at hl 2 rfl) ?_
  refine lv_bipush (v := 8) S.1 S.2.1 dX9_feed_54 (by decide) ?_
  refine lv_iload S.1 S.2.1 dX9_feed_56 (lv_at hl 0 rfl) ?_
  refine lv_imul S.1 S.2.1 dX9_feed_58 ?_
  refine lv_topi (fun x_25 ex_25 => ?_)
  have ex_25 : x_25 = 40 := by rw [ex_25]; decide
  subst ex_25
  refine lv_lshr S.1 S.2.1 dX9_feed_59 rfl ?_
  refine lv_topl (fun z_26 ez_26 => ?_)
  refine lv_ldc2 (v := (255)) S.1 S.2.1 S.2.2.2.1 (S.2.2.2.2 (.constantLong RX9 84 (255)) (by decide +kernel)) dX9_feed_60 ?_
  refine lv_land S.1 S.2.1 dX9_feed_63 ?_
  refine lv_topl (fun z_27 ez_27 => ?_)
  refine lv_l2i S.1 S.2.1 dX9_feed_64 rfl ?_
  refine lv_topi (fun x_29 ex_29 => ?_)
  refine va_iast S.1 S.2.1 hK.1 hP hD hS 1 0 rfl rfl (by unfold vp_in; decide) dX9_feed_65 (fun H locs hP hD hS => ?_)
  have hP : va_P D vwCl [(y, .inr (9, [.int 0, .int 0, .ref y_lane, .ref y_many, .ref y_item, .ref y_city, .ref y_fresh, .int 0, .ref y_tape, .int 2, .int 0, .int 0, .int 0, .int 0, .int 0, .int 0, .int 0, .int 0, .int 0, .int 0, .ref y_cost, .ref y_away, .ref y_fee, .ref y_goesTo, .ref y_priceWas, .ref y_isKept, .ref y_kept, .ref y_trace, .int 0])), (y_tape, .inl (cI, 400, .inl (upd f_22 (2 : Int32).toNatClampNeg (x_29))))] H := hP
  have hD : va_D A [(y, .inr (9, [.int 0, .int 0, .ref y_lane, .ref y_many, .ref y_item, .ref y_city, .ref y_fresh, .int 0, .ref y_tape, .int 2, .int 0, .int 0, .int 0, .int 0, .int 0, .int 0, .int 0, .int 0, .int 0, .int 0, .ref y_cost, .ref y_away, .ref y_fee, .ref y_goesTo, .ref y_priceWas, .ref y_isKept, .ref y_kept, .ref y_trace, .int 0])), (y_tape, .inl (cI, 400, .inl (upd f_22 (2 : Int32).toNatClampNeg (x_29))))] := hD
  generalize (upd f_22 (2 : Int32).toNatClampNeg (x_29)) = f_30 at hP hD
  refine lv_aload_n S.1 S.2.1 dX9_feed_66 rfl (lv_at hl 1 rfl) ?_
  refine lv_dup S.1 S.2.1 dX9_feed_67 rfl ?_
  refine b_get (v := .int 2) S iX9 hK hP 0 rfl rfl 9 (by decide) (by decide +kernel) rfl dX9_feed_68 ?_
  refine lv_iconst (v := 1) S.1 S.2.1 dX9_feed_71 (by decide) ?_
  refine lv_iadd S.1 S.2.1 dX9_feed_72 ?_
  refine lv_topi (fun x_31 ex_31 => ?_)
  have ex_31 : x_31 = 3 := by rw [ex_31]; decide
  subst ex_31
  refine b_put (v := .int 3) S iX9 tyX9 tyX9_ok nmX9 hK hP hD hS 0 rfl rfl 9 (by decide) (by decide +kernel) rfl rfl rfl (Nat.le_of_ble_eq_true rfl) dX9_feed_73 (fun H locs hP hD hS => ?_)
  have hP : va_P D vwCl [(y, .inr (9, [.int 0, .int 0, .ref y_lane, .ref y_many, .ref y_item, .ref y_city, .ref y_fresh, .int 0, .ref y_tape, .int 3, .int 0, .int 0, .int 0, .int 0, .int 0, .int 0, .int 0, .int 0, .int 0, .int 0, .ref y_cost, .ref y_away, .ref y_fee, .ref y_goesTo, .ref y_priceWas, .ref y_isKept, .ref y_kept, .ref y_trace, .int 0])), (y_tape, .inl (cI, 400, .inl f_30))] H := hP
  have hD : va_D A [(y, .inr (9, [.int 0, .int 0, .ref y_lane, .ref y_many, .ref y_item, .ref y_city, .ref y_fresh, .int 0, .ref y_tape, .int 3, .int 0, .int 0, .int 0, .int 0, .int 0, .int 0, .int 0, .int 0, .int 0, .int 0, .ref y_cost, .ref y_away, .ref y_fee, .ref y_goesTo, .ref y_priceWas, .ref y_isKept, .ref y_kept, .ref y_trace, .int 0])), (y_tape, .inl (cI, 400, .inl f_30))] := hD
  refine lv_iinc (v := 4) (lv' := [(4, .int 4), (0, .ref y), (1, .long wv), (3, .int 8)]) S.1 S.2.1 dX9_feed_76 hl (k := 0) rfl (by decide) (by decide) rfl (fun ls hl => ?_)
  refine lv_goto (tgt := 40) S.1 S.2.1 dX9_feed_79 (by decide) ?_
  refine lv_iload S.1 S.2.1 dX9_feed_40 (lv_at hl 0 rfl) ?_
  refine lv_if_lt (tgt := 82) S.1 S.2.1 dX9_feed_42 (by decide) (fun c_32 => absurd c_32 (by decide)) (fun c_32 => ?_)
  refine lv_aload_n S.1 S.2.1 dX9_feed_45 rfl (lv_at hl 1 rfl) ?_
  refine b_get (v := .ref y_tape) S iX9 hK hP 0 rfl rfl 8 (by decide) (by decide +kernel) rfl dX9_feed_46 ?_
  refine lv_aload_n S.1 S.2.1 dX9_feed_49 rfl (lv_at hl 1 rfl) ?_
  refine b_get (v := .int 3) S iX9 hK hP 0 rfl rfl 9 (by decide) (by decide +kernel) rfl dX9_feed_50 ?_
  refine lv_lload_n S.1 S.2.1 dX9_feed_53 rfl (lv_at hl 2 rfl) ?_
  refine lv_bipush (v := 8) S.1 S.2.1 dX9_feed_54 (by decide) ?_
  refine lv_iload S.1 S.2.1 dX9_feed_56 (lv_at hl 0 rfl) ?_
  refine lv_imul S.1 S.2.1 dX9_feed_58 ?_
  refine lv_topi (fun x_33 ex_33 => ?_)
  have ex_33 : x_33 = 32 := by rw [ex_33]; decide
  subst ex_33
  refine lv_lshr S.1 S.2.1 dX9_feed_59 rfl ?_
  refine lv_topl (fun z_34 ez_34 => ?_)
  refine lv_ldc2 (v := (255)) S.1 S.2.1 S.2.2.2.1 (S.2.2.2.2 (.constantLong RX9 84 (255)) (by decide +kernel)) dX9_feed_60 ?_
  refine lv_land S.1 S.2.1 dX9_feed_63 ?_
  refine lv_topl (fun z_35 ez_35 => ?_)
  refine lv_l2i S.1 S.2.1 dX9_feed_64 rfl ?_
  refine lv_topi (fun x_37 ex_37 => ?_)
  refine va_iast S.1 S.2.1 hK.1 hP hD hS 1 0 rfl rfl (by unfold vp_in; decide) dX9_feed_65 (fun H locs hP hD hS => ?_)
  have hP : va_P D vwCl [(y, .inr (9, [.int 0, .int 0, .ref y_lane, .ref y_many, .ref y_item, .ref y_city, .ref y_fresh, .int 0, .ref y_tape, .int 3, .int 0, .int 0, .int 0, .int 0, .int 0, .int 0, .int 0, .int 0, .int 0, .int 0, .ref y_cost, .ref y_away, .ref y_fee, .ref y_goesTo, .ref y_priceWas, .ref y_isKept, .ref y_kept, .ref y_trace, .int 0])), (y_tape, .inl (cI, 400, .inl (upd f_30 (3 : Int32).toNatClampNeg (x_37))))] H := hP
  have hD : va_D A [(y, .inr (9, [.int 0, .int 0, .ref y_lane, .ref y_many, .ref y_item, .ref y_city, .ref y_fresh, .int 0, .ref y_tape, .int 3, .int 0, .int 0, .int 0, .int 0, .int 0, .int 0, .int 0, .int 0, .int 0, .int 0, .ref y_cost, .ref y_away, .ref y_fee, .ref y_goesTo, .ref y_priceWas, .ref y_isKept, .ref y_kept, .ref y_trace, .int 0])), (y_tape, .inl (cI, 400, .inl (upd f_30 (3 : Int32).toNatClampNeg (x_37))))] := hD
  generalize (upd f_30 (3 : Int32).toNatClampNeg (x_37)) = f_38 at hP hD
  refine lv_aload_n S.1 S.2.1 dX9_feed_66 rfl (lv_at hl 1 rfl) ?_
  refine lv_dup S.1 S.2.1 dX9_feed_67 rfl ?_
  refine b_get (v := .int 3) S iX9 hK hP 0 rfl rfl 9 (by decide) (by decide +kernel) rfl dX9_feed_68 ?_
  refine lv_iconst (v := 1) S.1 S.2.1 dX9_feed_71 (by decide) ?_
  refine lv_iadd S.1 S.2.1 dX9_feed_72 ?_
  refine lv_topi (fun x_39 ex_39 => ?_)
  have ex_39 : x_39 = 4 := by rw [ex_39]; decide
  subst ex_39
  refine b_put (v := .int 4) S iX9 tyX9 tyX9_ok nmX9 hK hP hD hS 0 rfl rfl 9 (by decide) (by decide +kernel) rfl rfl rfl (Nat.le_of_ble_eq_true rfl) dX9_feed_73 (fun H locs hP hD hS => ?_)
  have hP : va_P D vwCl [(y, .inr (9, [.int 0, .int 0, .ref y_lane, .ref y_many, .ref y_item, .ref y_city, .ref y_fresh, .int 0, .ref y_tape, .int 4, .int 0, .int 0, .int 0, .int 0, .int 0, .int 0, .int 0, .int 0, .int 0, .int 0, .ref y_cost, .ref y_away, .ref y_fee, .ref y_goesTo, .ref y_priceWas, .ref y_isKept, .ref y_kept, .ref y_trace, .int 0])), (y_tape, .inl (cI, 400, .inl f_38))] H := hP
  have hD : va_D A [(y, .inr (9, [.int 0, .int 0, .ref y_lane, .ref y_many, .ref y_item, .ref y_city, .ref y_fresh, .int 0, .ref y_tape, .int 4, .int 0, .int 0, .int 0, .int 0, .int 0, .int 0, .int 0, .int 0, .int 0, .int 0, .ref y_cost, .ref y_away, .ref y_fee, .ref y_goesTo, .ref y_priceWas, .ref y_isKept, .ref y_kept, .ref y_trace, .int 0])), (y_tape, .inl (cI, 400, .inl f_38))] := hD
  refine lv_iinc (v := 3) (lv' := [(4, .int 3), (0, .ref y), (1, .long wv), (3, .int 8)]) S.1 S.2.1 dX9_feed_76 hl (k := 0) rfl (by decide) (by decide) rfl (fun ls hl => ?_)
  refine lv_goto (tgt := 40) S.1 S.2.1 dX9_feed_79 (by decide) ?_
  refine lv_iload S.1 S.2.1 dX9_feed_40 (lv_at hl 0 rfl) ?_
  refine lv_if_lt (tgt := 82) S.1 S.2.1 dX9_feed_42 (by decide) (fun c_40 => absurd c_40 (by decide)) (fun c_40 => ?_)
  refine lv_aload_n S.1 S.2.1 dX9_feed_45 rfl (lv_at hl 1 rfl) ?_
  refine b_get (v := .ref y_tape) S iX9 hK hP 0 rfl rfl 8 (by decide) (by decide +kernel) rfl dX9_feed_46 ?_
  refine lv_aload_n S.1 S.2.1 dX9_feed_49 rfl (lv_at hl 1 rfl) ?_
  refine b_get (v := .int 4) S iX9 hK hP 0 rfl rfl 9 (by decide) (by decide +kernel) rfl dX9_feed_50 ?_
  refine lv_lload_n S.1 S.2.1 dX9_feed_53 rfl (lv_at hl 2 rfl) ?_
  refine lv_bipush (v := 8) S.1 S.2.1 dX9_feed_54 (by decide) ?_
  refine lv_iload S.1 S.2.1 dX9_feed_56 (lv_at hl 0 rfl) ?_
  refine lv_imul S.1 S.2.1 dX9_feed_58 ?_
  refine lv_topi (fun x_41 ex_41 => ?_)
  have ex_41 : x_41 = 24 := by rw [ex_41]; decide
  subst ex_41
  refine lv_lshr S.1 S.2.1 dX9_feed_59 rfl ?_
  refine lv_topl (fun z_42 ez_42 => ?_)
  refine lv_ldc2 (v := (255)) S.1 S.2.1 S.2.2.2.1 (S.2.2.2.2 (.constantLong RX9 84 (255)) (by decide +kernel)) dX9_feed_60 ?_
  refine lv_land S.1 S.2.1 dX9_feed_63 ?_
  refine lv_topl (fun z_43 ez_43 => ?_)
  refine lv_l2i S.1 S.2.1 dX9_feed_64 rfl ?_
  refine lv_topi (fun x_45 ex_45 => ?_)
  refine va_iast S.1 S.2.1 hK.1 hP hD hS 1 0 rfl rfl (by unfold vp_in; decide) dX9_feed_65 (fun H locs hP hD hS => ?_)
  have hP : va_P D vwCl [(y, .inr (9, [.int 0, .int 0, .ref y_lane, .ref y_many, .ref y_item, .ref y_city, .ref y_fresh, .int 0, .ref y_tape, .int 4, .int 0, .int 0, .int 0, .int 0, .int 0, .int 0, .int 0, .int 0, .int 0, .int 0, .ref y_cost, .ref y_away, .ref y_fee, .ref y_goesTo, .ref y_priceWas, .ref y_isKept, .ref y_kept, .ref y_trace, .int 0])), (y_tape, .inl (cI, 400, .inl (upd f_38 (4 : Int32).toNatClampNeg (x_45))))] H := hP
  have hD : va_D A [(y, .inr (9, [.int 0, .int 0, .ref y_lane, .ref y_many, .ref y_item, .ref y_city, .ref y_fresh, .int 0, .ref y_tape, .int 4, .int 0, .int 0, .int 0, .int 0, .int 0, .int 0, .int 0, .int 0, .int 0, .int 0, .ref y_cost, .ref y_away, .ref y_fee, .ref y_goesTo, .ref y_priceWas, .ref y_isKept, .ref y_kept, .ref y_trace, .int 0])), (y_tape, .inl (cI, 400, .inl (upd f_38 (4 : Int32).toNatClampNeg (x_45))))] := hD
  generalize (upd f_38 (4 : Int32).toNatClampNeg (x_45)) = f_46 at hP hD
  refine lv_aload_n S.1 S.2.1 dX9_feed_66 rfl (lv_at hl 1 rfl) ?_
  refine lv_dup S.1 S.2.1 dX9_feed_67 rfl ?_
  refine b_get (v := .int 4) S iX9 hK hP 0 rfl rfl 9 (by decide) (by decide +kernel) rfl dX9_feed_68 ?_
  refine lv_iconst (v := 1) S.1 S.2.1 dX9_feed_71 (by decide) ?_
  refine lv_iadd S.1 S.2.1 dX9_feed_72 ?_
  refine lv_topi (fun x_47 ex_47 => ?_)
  have ex_47 : x_47 = 5 := by rw [ex_47]; decide
  subst ex_47
  refine b_put (v := .int 5) S iX9 tyX9 tyX9_ok nmX9 hK hP hD hS 0 rfl rfl 9 (by decide) (by decide +kernel) rfl rfl rfl (Nat.le_of_ble_eq_true rfl) dX9_feed_73 (fun H locs hP hD hS => ?_)
  have hP : va_P D vwCl [(y, .inr (9, [.int 0, .int 0, .ref y_lane, .ref y_many, .ref y_item, .ref y_city, .ref y_fresh, .int 0, .ref y_tape, .int 5, .int 0, .int 0, .int 0, .int 0, .int 0, .int 0, .int 0, .int 0, .int 0, .int 0, .ref y_cost, .ref y_away, .ref y_fee, .ref y_goesTo, .ref y_priceWas, .ref y_isKept, .ref y_kept, .ref y_trace, .int 0])), (y_tape, .inl (cI, 400, .inl f_46))] H := hP
  have hD : va_D A [(y, .inr (9, [.int 0, .int 0, .ref y_lane, .ref y_many, .ref y_item, .ref y_city, .ref y_fresh, .int 0, .ref y_tape, .int 5, .int 0, .int 0, .int 0, .int 0, .int 0, .int 0, .int 0, .int 0, .int 0, .int 0, .ref y_cost, .ref y_away, .ref y_fee, .ref y_goesTo, .ref y_priceWas, .ref y_isKept, .ref y_kept, .ref y_trace, .int 0])), (y_tape, .inl (cI, 400, .inl f_46))] := hD
  refine lv_iinc (v := 2) (lv' := [(4, .int 2), (0, .ref y), (1, .long wv), (3, .int 8)]) S.1 S.2.1 dX9_feed_76 hl (k := 0) rfl (by decide) (by decide) rfl (fun ls hl => ?_)
  refine lv_goto (tgt := 40) S.1 S.2.1 dX9_feed_79 (by decide) ?_
  refine lv_iload S.1 S.2.1 dX9_feed_40 (lv_at hl 0 rfl) ?_
  refine lv_if_lt (tgt := 82) S.1 S.2.1 dX9_feed_42 (by decide) (fun c_48 => absurd c_48 (by decide)) (fun c_48 => ?_)
  refine lv_aload_n S.1 S.2.1 dX9_feed_45 rfl (lv_at hl 1 rfl) ?_
  refine b_get (v := .ref y_tape) S iX9 hK hP 0 rfl rfl 8 (by decide) (by decide +kernel) rfl dX9_feed_46 ?_
  refine lv_aload_n S.1 S.2.1 dX9_feed_49 rfl (lv_at hl 1 rfl) ?_
  refine b_get (v := .int 5) S iX9 hK hP 0 rfl rfl 9 (by decide) (by decide +kernel) rfl dX9_feed_50 ?_
  refine lv_lload_n S.1 S.2.1 dX9_feed_53 rfl (lv_at hl 2 rfl) ?_
  refine lv_bipush (v := 8) S.1 S.2.1 dX9_feed_54 (by decide) ?_
  refine lv_iload S.1 S.2.1 dX9_feed_56 (lv_at hl 0 rfl) ?_
  refine lv_imul S.1 S.2.1 dX9_feed_58 ?_
  refine lv_topi (fun x_49 ex_49 => ?_)
  have ex_49 : x_49 = 16 := by rw [ex_49]; decide
  subst ex_49
  refine lv_lshr S.1 S.2.1 dX9_feed_59 rfl ?_
  refine lv_topl (fun z_50 ez_50 => ?_)
  refine lv_ldc2 (v := (255)) S.1 S.2.1 S.2.2.2.1 (S.2.2.2.2 (.constantLong RX9 84 (255)) (by decide +kernel)) dX9_feed_60 ?_
  refine lv_land S.1 S.2.1 dX9_feed_63 ?_
  refine lv_topl (fun z_51 ez_51 => ?_)
  refine lv_l2i S.1 S.2.1 dX9_feed_64 rfl ?_
  refine lv_topi (fun x_53 ex_53 => ?_)
  refine va_iast S.1 S.2.1 hK.1 hP hD hS 1 0 rfl rfl (by unfold vp_in; decide) dX9_feed_65 (fun H locs hP hD hS => ?_)
  have hP : va_P D vwCl [(y, .inr (9, [.int 0, .int 0, .ref y_lane, .ref y_many, .ref y_item, .ref y_city, .ref y_fresh, .int 0, .ref y_tape, .int 5, .int 0, .int 0, .int 0, .int 0, .int 0, .int 0, .int 0, .int 0, .int 0, .int 0, .ref y_cost, .ref y_away, .ref y_fee, .ref y_goesTo, .ref y_priceWas, .ref y_isKept, .ref y_kept, .ref y_trace, .int 0])), (y_tape, .inl (cI, 400, .inl (upd f_46 (5 : Int32).toNatClampNeg (x_53))))] H := hP
  have hD : va_D A [(y, .inr (9, [.int 0, .int 0, .ref y_lane, .ref y_many, .ref y_item, .ref y_city, .ref y_fresh, .int 0, .ref y_tape, .int 5, .int 0, .int 0, .int 0, .int 0, .int 0, .int 0, .int 0, .int 0, .int 0, .int 0, .ref y_cost, .ref y_away, .ref y_fee, .ref y_goesTo, .ref y_priceWas, .ref y_isKept, .ref y_kept, .ref y_trace, .int 0])), (y_tape, .inl (cI, 400, .inl (upd f_46 (5 : Int32).toNatClampNeg (x_53))))] := hD
  generalize (upd f_46 (5 : Int32).toNatClampNeg (x_53)) = f_54 at hP hD
  refine lv_aload_n S.1 S.2.1 dX9_feed_66 rfl (lv_at hl 1 rfl) ?_
  refine lv_dup S.1 S.2.1 dX9_feed_67 rfl ?_
  refine b_get (v := .int 5) S iX9 hK hP 0 rfl rfl 9 (by decide) (by decide +kernel) rfl dX9_feed_68 ?_
  refine lv_iconst (v := 1) S.1 S.2.1 dX9_feed_71 (by decide) ?_
  refine lv_iadd S.1 S.2.1 dX9_feed_72 ?_
  refine lv_topi (fun x_55 ex_55 => ?_)
  have ex_55 : x_55 = 6 := by rw [ex_55]; decide
  subst ex_55
  refine b_put (v := .int 6) S iX9 tyX9 tyX9_ok nmX9 hK hP hD hS 0 rfl rfl 9 (by decide) (by decide +kernel) rfl rfl rfl (Nat.le_of_ble_eq_true rfl) dX9_feed_73 (fun H locs hP hD hS => ?_)
  have hP : va_P D vwCl [(y, .inr (9, [.int 0, .int 0, .ref y_lane, .ref y_many, .ref y_item, .ref y_city, .ref y_fresh, .int 0, .ref y_tape, .int 6, .int 0, .int 0, .int 0, .int 0, .int 0, .int 0, .int 0, .int 0, .int 0, .int 0, .ref y_cost, .ref y_away, .ref y_fee, .ref y_goesTo, .ref y_priceWas, .ref y_isKept, .ref y_kept, .ref y_trace, .int 0])), (y_tape, .inl (cI, 400, .inl f_54))] H := hP
  have hD : va_D A [(y, .inr (9, [.int 0, .int 0, .ref y_lane, .ref y_many, .ref y_item, .ref y_city, .ref y_fresh, .int 0, .ref y_tape, .int 6, .int 0, .int 0, .int 0, .int 0, .int 0, .int 0, .int 0, .int 0, .int 0, .int 0, .ref y_cost, .ref y_away, .ref y_fee, .ref y_goesTo, .ref y_priceWas, .ref y_isKept, .ref y_kept, .ref y_trace, .int 0])), (y_tape, .inl (cI, 400, .inl f_54))] := hD
  refine lv_iinc (v := 1) (lv' := [(4, .int 1), (0, .ref y), (1, .long wv), (3, .int 8)]) S.1 S.2.1 dX9_feed_76 hl (k := 0) rfl (by decide) (by decide) rfl (fun ls hl => ?_)
  refine lv_goto (tgt := 40) S.1 S.2.1 dX9_feed_79 (by decide) ?_
  refine lv_iload S.1 S.2.1 dX9_feed_40 (lv_at hl 0 rfl) ?_
  refine lv_if_lt (tgt := 82) S.1 S.2.1 dX9_feed_42 (by decide) (fun c_56 => absurd c_56 (by decide)) (fun c_56 => ?_)
  refine lv_aload_n S.1 S.2.1 dX9_feed_45 rfl (lv_at hl 1 rfl) ?_
  refine b_get (v := .ref y_tape) S iX9 hK hP 0 rfl rfl 8 (by decide) (by decide +kernel) rfl dX9_feed_46 ?_
  refine lv_aload_n S.1 S.2.1 dX9_feed_49 rfl (lv_at hl 1 rfl) ?_
  refine b_get (v := .int 6) S iX9 hK hP 0 rfl rfl 9 (by decide) (by decide +kernel) rfl dX9_feed_50 ?_
  refine lv_lload_n S.1 S.2.1 dX9_feed_53 rfl (lv_at hl 2 rfl) ?_
  refine lv_bipush (v := 8) S.1 S.2.1 dX9_feed_54 (by decide) ?_
  refine lv_iload S.1 S.2.1 dX9_feed_56 (lv_at hl 0 rfl) ?_
  refine lv_imul S.1 S.2.1 dX9_feed_58 ?_
  refine lv_topi (fun x_57 ex_57 => ?_)
  have ex_57 : x_57 = 8 := by rw [ex_57]; decide
  subst ex_57
  refine lv_lshr S.1 S.2.1 dX9_feed_59 rfl ?_
  refine lv_topl (fun z_58 ez_58 => ?_)
  refine lv_ldc2 (v := (255)) S.1 S.2.1 S.2.2.2.1 (S.2.2.2.2 (.constantLong RX9 84 (255)) (by decide +kernel)) dX9_feed_60 ?_
  refine lv_land S.1 S.2.1 dX9_feed_63 ?_
  refine lv_topl (fun z_59 ez_59 => ?_)
  refine lv_l2i S.1 S.2.1 dX9_feed_64 rfl ?_
  refine lv_topi (fun x_61 ex_61 => ?_)
  refine va_iast S.1 S.2.1 hK.1 hP hD hS 1 0 rfl rfl (by unfold vp_in; decide) dX9_feed_65 (fun H locs hP hD hS => ?_)
  have hP : va_P D vwCl [(y, .inr (9, [.int 0, .int 0, .ref y_lane, .ref y_many, .ref y_item, .ref y_city, .ref y_fresh, .int 0, .ref y_tape, .int 6, .int 0, .int 0, .int 0, .int 0, .int 0, .int 0, .int 0, .int 0, .int 0, .int 0, .ref y_cost, .ref y_away, .ref y_fee, .ref y_goesTo, .ref y_priceWas, .ref y_isKept, .ref y_kept, .ref y_trace, .int 0])), (y_tape, .inl (cI, 400, .inl (upd f_54 (6 : Int32).toNatClampNeg (x_61))))] H := hP
  have hD : va_D A [(y, .inr (9, [.int 0, .int 0, .ref y_lane, .ref y_many, .ref y_item, .ref y_city, .ref y_fresh, .int 0, .ref y_tape, .int 6, .int 0, .int 0, .int 0, .int 0, .int 0, .int 0, .int 0, .int 0, .int 0, .int 0, .ref y_cost, .ref y_away, .ref y_fee, .ref y_goesTo, .ref y_priceWas, .ref y_isKept, .ref y_kept, .ref y_trace, .int 0])), (y_tape, .inl (cI, 400, .inl (upd f_54 (6 : Int32).toNatClampNeg (x_61))))] := hD
  generalize (upd f_54 (6 : Int32).toNatClampNeg (x_61)) = f_62 at hP hD
  refine lv_aload_n S.1 S.2.1 dX9_feed_66 rfl (lv_at hl 1 rfl) ?_
  refine lv_dup S.1 S.2.1 dX9_feed_67 rfl ?_
  refine b_get (v := .int 6) S iX9 hK hP 0 rfl rfl 9 (by decide) (by decide +kernel) rfl dX9_feed_68 ?_
  refine lv_iconst (v := 1) S.1 S.2.1 dX9_feed_71 (by decide) ?_
  refine lv_iadd S.1 S.2.1 dX9_feed_72 ?_
  refine lv_topi (fun x_63 ex_63 => ?_)
  have ex_63 : x_63 = 7 := by rw [ex_63]; decide
  subst ex_63
  refine b_put (v := .int 7) S iX9 tyX9 tyX9_ok nmX9 hK hP hD hS 0 rfl rfl 9 (by decide) (by decide +kernel) rfl rfl rfl (Nat.le_of_ble_eq_true rfl) dX9_feed_73 (fun H locs hP hD hS => ?_)
  have hP : va_P D vwCl [(y, .inr (9, [.int 0, .int 0, .ref y_lane, .ref y_many, .ref y_item, .ref y_city, .ref y_fresh, .int 0, .ref y_tape, .int 7, .int 0, .int 0, .int 0, .int 0, .int 0, .int 0, .int 0, .int 0, .int 0, .int 0, .ref y_cost, .ref y_away, .ref y_fee, .ref y_goesTo, .ref y_priceWas, .ref y_isKept, .ref y_kept, .ref y_trace, .int 0])), (y_tape, .inl (cI, 400, .inl f_62))] H := hP
  have hD : va_D A [(y, .inr (9, [.int 0, .int 0, .ref y_lane, .ref y_many, .ref y_item, .ref y_city, .ref y_fresh, .int 0, .ref y_tape, .int 7, .int 0, .int 0, .int 0, .int 0, .int 0, .int 0, .int 0, .int 0, .int 0, .int 0, .ref y_cost, .ref y_away, .ref y_fee, .ref y_goesTo, .ref y_priceWas, .ref y_isKept, .ref y_kept, .ref y_trace, .int 0])), (y_tape, .inl (cI, 400, .inl f_62))] := hD
  refine lv_iinc (v := 0) (lv' := [(4, .int 0), (0, .ref y), (1, .long wv), (3, .int 8)]) S.1 S.2.1 dX9_feed_76 hl (k := 0) rfl (by decide) (by decide) rfl (fun ls hl => ?_)
  refine lv_goto (tgt := 40) S.1 S.2.1 dX9_feed_79 (by decide) ?_
  refine lv_iload S.1 S.2.1 dX9_feed_40 (lv_at hl 0 rfl) ?_
  refine lv_if_lt (tgt := 82) S.1 S.2.1 dX9_feed_42 (by decide) (fun c_64 => absurd c_64 (by decide)) (fun c_64 => ?_)
  refine lv_aload_n S.1 S.2.1 dX9_feed_45 rfl (lv_at hl 1 rfl) ?_
  refine b_get (v := .ref y_tape) S iX9 hK hP 0 rfl rfl 8 (by decide) (by decide +kernel) rfl dX9_feed_46 ?_
  refine lv_aload_n S.1 S.2.1 dX9_feed_49 rfl (lv_at hl 1 rfl) ?_
  refine b_get (v := .int 7) S iX9 hK hP 0 rfl rfl 9 (by decide) (by decide +kernel) rfl dX9_feed_50 ?_
  refine lv_lload_n S.1 S.2.1 dX9_feed_53 rfl (lv_at hl 2 rfl) ?_
  refine lv_bipush (v := 8) S.1 S.2.1 dX9_feed_54 (by decide) ?_
  refine lv_iload S.1 S.2.1 dX9_feed_56 (lv_at hl 0 rfl) ?_
  refine lv_imul S.1 S.2.1 dX9_feed_58 ?_
  refine lv_topi (fun x_65 ex_65 => ?_)
  have ex_65 : x_65 = 0 := by rw [ex_65]; decide
  subst ex_65
  refine lv_lshr S.1 S.2.1 dX9_feed_59 rfl ?_
  refine lv_topl (fun z_66 ez_66 => ?_)
  refine lv_ldc2 (v := (255)) S.1 S.2.1 S.2.2.2.1 (S.2.2.2.2 (.constantLong RX9 84 (255)) (by decide +kernel)) dX9_feed_60 ?_
  refine lv_land S.1 S.2.1 dX9_feed_63 ?_
  refine lv_topl (fun z_67 ez_67 => ?_)
  refine lv_l2i S.1 S.2.1 dX9_feed_64 rfl ?_
  refine lv_topi (fun x_69 ex_69 => ?_)
  refine va_iast S.1 S.2.1 hK.1 hP hD hS 1 0 rfl rfl (by unfold vp_in; decide) dX9_feed_65 (fun H locs hP hD hS => ?_)
  have hP : va_P D vwCl [(y, .inr (9, [.int 0, .int 0, .ref y_lane, .ref y_many, .ref y_item, .ref y_city, .ref y_fresh, .int 0, .ref y_tape, .int 7, .int 0, .int 0, .int 0, .int 0, .int 0, .int 0, .int 0, .int 0, .int 0, .int 0, .ref y_cost, .ref y_away, .ref y_fee, .ref y_goesTo, .ref y_priceWas, .ref y_isKept, .ref y_kept, .ref y_trace, .int 0])), (y_tape, .inl (cI, 400, .inl (upd f_62 (7 : Int32).toNatClampNeg (x_69))))] H := hP
  have hD : va_D A [(y, .inr (9, [.int 0, .int 0, .ref y_lane, .ref y_many, .ref y_item, .ref y_city, .ref y_fresh, .int 0, .ref y_tape, .int 7, .int 0, .int 0, .int 0, .int 0, .int 0, .int 0, .int 0, .int 0, .int 0, .int 0, .ref y_cost, .ref y_away, .ref y_fee, .ref y_goesTo, .ref y_priceWas, .ref y_isKept, .ref y_kept, .ref y_trace, .int 0])), (y_tape, .inl (cI, 400, .inl (upd f_62 (7 : Int32).toNatClampNeg (x_69))))] := hD
  generalize (upd f_62 (7 : Int32).toNatClampNeg (x_69)) = f_70 at hP hD
  refine lv_aload_n S.1 S.2.1 dX9_feed_66 rfl (lv_at hl 1 rfl) ?_
  refine lv_dup S.1 S.2.1 dX9_feed_67 rfl ?_
  refine b_get (v := .int 7) S iX9 hK hP 0 rfl rfl 9 (by decide) (by decide +kernel) rfl dX9_feed_68 ?_
  refine lv_iconst (v := 1) S.1 S.2.1 dX9_feed_71 (by decide) ?_
  refine lv_iadd S.1 S.2.1 dX9_feed_72 ?_
  refine lv_topi (fun x_71 ex_71 => ?_)
  have ex_71 : x_71 = 8 := by rw [ex_71]; decide
  subst ex_71
  refine b_put (v := .int 8) S iX9 tyX9 tyX9_ok nmX9 hK hP hD hS 0 rfl rfl 9 (by decide) (by decide +kernel) rfl rfl rfl (Nat.le_of_ble_eq_true rfl) dX9_feed_73 (fun H locs hP hD hS => ?_)
  have hP : va_P D vwCl [(y, .inr (9, [.int 0, .int 0, .ref y_lane, .ref y_many, .ref y_item, .ref y_city, .ref y_fresh, .int 0, .ref y_tape, .int 8, .int 0, .int 0, .int 0, .int 0, .int 0, .int 0, .int 0, .int 0, .int 0, .int 0, .ref y_cost, .ref y_away, .ref y_fee, .ref y_goesTo, .ref y_priceWas, .ref y_isKept, .ref y_kept, .ref y_trace, .int 0])), (y_tape, .inl (cI, 400, .inl f_70))] H := hP
  have hD : va_D A [(y, .inr (9, [.int 0, .int 0, .ref y_lane, .ref y_many, .ref y_item, .ref y_city, .ref y_fresh, .int 0, .ref y_tape, .int 8, .int 0, .int 0, .int 0, .int 0, .int 0, .int 0, .int 0, .int 0, .int 0, .int 0, .ref y_cost, .ref y_away, .ref y_fee, .ref y_goesTo, .ref y_priceWas, .ref y_isKept, .ref y_kept, .ref y_trace, .int 0])), (y_tape, .inl (cI, 400, .inl f_70))] := hD
  refine lv_iinc (v := (-1)) (lv' := [(4, .int (-1)), (0, .ref y), (1, .long wv), (3, .int 8)]) S.1 S.2.1 dX9_feed_76 hl (k := 0) rfl (by decide) (by decide) rfl (fun ls hl => ?_)
  refine lv_goto (tgt := 40) S.1 S.2.1 dX9_feed_79 (by decide) ?_
  refine lv_iload S.1 S.2.1 dX9_feed_40 (lv_at hl 0 rfl) ?_
  refine lv_if_lt (tgt := 82) S.1 S.2.1 dX9_feed_42 (by decide) (fun c_72 => ?_) (fun c_72 => absurd c_72 (by decide))
  refine lv_aload_n S.1 S.2.1 dX9_feed_82 rfl (lv_at hl 1 rfl) ?_
  refine b_get (v := .int 8) S iX9 hK hP 0 rfl rfl 9 (by decide) (by decide +kernel) rfl dX9_feed_83 ?_
  have hP := hP.sub (ws' := []) [] rfl
  have hD := hD.sub (ws' := []) [] (by decide) rfl
  exact b_iret S.1 S.2.1 X.2.1 X.2.2.1 hP hD hS ⟨rfl, rfl⟩ dX9_feed_86
