theorem hdV_X8_as : yX8_as.cls = RX8 ∧ yX8_as.cls ≠ "java/lang/invoke/MethodHandle" ∧ yX8_as.cls ≠ "java/lang/invoke/VarHandle" ∧ (parseMethodDescriptor yX8_as.desc).map (fun d => d.parameters.length) = some 2 := by decide +kernel
theorem hdV_X8_ask : yX8_ask.cls = RX8 ∧ yX8_ask.cls ≠ "java/lang/invoke/MethodHandle" ∧ yX8_ask.cls ≠ "java/lang/invoke/VarHandle" ∧ (parseMethodDescriptor yX8_ask.desc).map (fun d => d.parameters.length) = some 2 := by decide +kernel
theorem hdV_X8_beauty : yX8_beauty.cls = RX8 ∧ yX8_beauty.cls ≠ "java/lang/invoke/MethodHandle" ∧ yX8_beauty.cls ≠ "java/lang/invoke/VarHandle" ∧ (parseMethodDescriptor yX8_beauty.desc).map (fun d => d.parameters.length) = some 1 := by decide +kernel
theorem hdV_X8_count : yX8_count.cls = RX8 ∧ yX8_count.cls ≠ "java/lang/invoke/MethodHandle" ∧ yX8_count.cls ≠ "java/lang/invoke/VarHandle" ∧ (parseMethodDescriptor yX8_count.desc).map (fun d => d.parameters.length) = some 1 := by decide +kernel
theorem hdV_X8_earns : yX8_earns.cls = RX8 ∧ yX8_earns.cls ≠ "java/lang/invoke/MethodHandle" ∧ yX8_earns.cls ≠ "java/lang/invoke/VarHandle" ∧ (parseMethodDescriptor yX8_earns.desc).map (fun d => d.parameters.length) = some 2 := by decide +kernel
theorem hdV_X8_home : yX8_home.cls = RX8 ∧ yX8_home.cls ≠ "java/lang/invoke/MethodHandle" ∧ yX8_home.cls ≠ "java/lang/invoke/VarHandle" ∧ (parseMethodDescriptor yX8_home.desc).map (fun d => d.parameters.length) = some 3 := by decide +kernel
theorem hdV_X8_image : yX8_image.cls = RX8 ∧ yX8_image.cls ≠ "java/lang/invoke/MethodHandle" ∧ yX8_image.cls ≠ "java/lang/invoke/VarHandle" ∧ (parseMethodDescriptor yX8_image.desc).map (fun d => d.parameters.length) = some 1 := by decide +kernel
theorem hdV_X8_kind : yX8_kind.cls = RX8 ∧ yX8_kind.cls ≠ "java/lang/invoke/MethodHandle" ∧ yX8_kind.cls ≠ "java/lang/invoke/VarHandle" ∧ (parseMethodDescriptor yX8_kind.desc).map (fun d => d.parameters.length) = some 1 := by decide +kernel
theorem hdV_X8_nothing : yX8_nothing.cls = RX8 ∧ yX8_nothing.cls ≠ "java/lang/invoke/MethodHandle" ∧ yX8_nothing.cls ≠ "java/lang/invoke/VarHandle" ∧ (parseMethodDescriptor yX8_nothing.desc).map (fun d => d.parameters.length) = some 1 := by decide +kernel
theorem hdV_X8_restore : yX8_restore.cls = RX8 ∧ yX8_restore.cls ≠ "java/lang/invoke/MethodHandle" ∧ yX8_restore.cls ≠ "java/lang/invoke/VarHandle" ∧ (parseMethodDescriptor yX8_restore.desc).map (fun d => d.parameters.length) = some 1 := by decide +kernel
theorem hdV_X8_rivals : yX8_rivals.cls = RX8 ∧ yX8_rivals.cls ≠ "java/lang/invoke/MethodHandle" ∧ yX8_rivals.cls ≠ "java/lang/invoke/VarHandle" ∧ (parseMethodDescriptor yX8_rivals.desc).map (fun d => d.parameters.length) = some 1 := by decide +kernel
theorem hdV_X8_status : yX8_status.cls = RX8 ∧ yX8_status.cls ≠ "java/lang/invoke/MethodHandle" ∧ yX8_status.cls ≠ "java/lang/invoke/VarHandle" ∧ (parseMethodDescriptor yX8_status.desc).map (fun d => d.parameters.length) = some 0 := by decide +kernel
theorem hdV_X8_trace : yX8_trace.cls = RX8 ∧ yX8_trace.cls ≠ "java/lang/invoke/MethodHandle" ∧ yX8_trace.cls ≠ "java/lang/invoke/VarHandle" ∧ (parseMethodDescriptor yX8_trace.desc).map (fun d => d.parameters.length) = some 1 := by decide +kernel
theorem hdV_X8_wall : yX8_wall.cls = RX8 ∧ yX8_wall.cls ≠ "java/lang/invoke/MethodHandle" ∧ yX8_wall.cls ≠ "java/lang/invoke/VarHandle" ∧ (parseMethodDescriptor yX8_wall.desc).map (fun d => d.parameters.length) = some 2 := by decide +kernel
theorem hdV_X9_as : yX9_as.cls = RX9 ∧ yX9_as.cls ≠ "java/lang/invoke/MethodHandle" ∧ yX9_as.cls ≠ "java/lang/invoke/VarHandle" ∧ (parseMethodDescriptor yX9_as.desc).map (fun d => d.parameters.length) = some 2 := by decide +kernel
theorem hdV_X9_ask : yX9_ask.cls = RX9 ∧ yX9_ask.cls ≠ "java/lang/invoke/MethodHandle" ∧ yX9_ask.cls ≠ "java/lang/invoke/VarHandle" ∧ (parseMethodDescriptor yX9_ask.desc).map (fun d => d.parameters.length) = some 2 := by decide +kernel
theorem hdV_X9_beauty : yX9_beauty.cls = RX9 ∧ yX9_beauty.cls ≠ "java/lang/invoke/MethodHandle" ∧ yX9_beauty.cls ≠ "java/lang/invoke/VarHandle" ∧ (parseMethodDescriptor yX9_beauty.desc).map (fun d => d.parameters.length) = some 1 := by decide +kernel
theorem hdV_X9_count : yX9_count.cls = RX9 ∧ yX9_count.cls ≠ "java/lang/invoke/MethodHandle" ∧ yX9_count.cls ≠ "java/lang/invoke/VarHandle" ∧ (parseMethodDescriptor yX9_count.desc).map (fun d => d.parameters.length) = some 1 := by decide +kernel
theorem hdV_X9_earns : yX9_earns.cls = RX9 ∧ yX9_earns.cls ≠ "java/lang/invoke/MethodHandle" ∧ yX9_earns.cls ≠ "java/lang/invoke/VarHandle" ∧ (parseMethodDescriptor yX9_earns.desc).map (fun d => d.parameters.length) = some 2 := by decide +kernel
theorem hdV_X9_home : yX9_home.cls = RX9 ∧ yX9_home.cls ≠ "java/lang/invoke/MethodHandle" ∧ yX9_home.cls ≠ "java/lang/invoke/VarHandle" ∧ (parseMethodDescriptor yX9_home.desc).map (fun d => d.parameters.length) = some 3 := by decide +kernel
theorem hdV_X9_image : yX9_image.cls = RX9 ∧ yX9_image.cls ≠ "java/lang/invoke/MethodHandle" ∧ yX9_image.cls ≠ "java/lang/invoke/VarHandle" ∧ (parseMethodDescriptor yX9_image.desc).map (fun d => d.parameters.length) = some 1 := by decide +kernel
theorem hdV_X9_kind : yX9_kind.cls = RX9 ∧ yX9_kind.cls ≠ "java/lang/invoke/MethodHandle" ∧ yX9_kind.cls ≠ "java/lang/invoke/VarHandle" ∧ (parseMethodDescriptor yX9_kind.desc).map (fun d => d.parameters.length) = some 1 := by decide +kernel
theorem hdV_X9_nothing : yX9_nothing.cls = RX9 ∧ yX9_nothing.cls ≠ "java/lang/invoke/MethodHandle" ∧ yX9_nothing.cls ≠ "java/lang/invoke/VarHandle" ∧ (parseMethodDescriptor yX9_nothing.desc).map (fun d => d.parameters.length) = some 1 := by decide +kernel
theorem hdV_X9_restore : yX9_restore.cls = RX9 ∧ yX9_restore.cls ≠ "java/lang/invoke/MethodHandle" ∧ yX9_restore.cls ≠ "java/lang/invoke/VarHandle" ∧ (parseMethodDescriptor yX9_restore.desc).map (fun d => d.parameters.length) = some 1 := by decide +kernel
theorem hdV_X9_rivals : yX9_rivals.cls = RX9 ∧ yX9_rivals.cls ≠ "java/lang/invoke/MethodHandle" ∧ yX9_rivals.cls ≠ "java/lang/invoke/VarHandle" ∧ (parseMethodDescriptor yX9_rivals.desc).map (fun d => d.parameters.length) = some 1 := by decide +kernel
theorem hdV_X9_status : yX9_status.cls = RX9 ∧ yX9_status.cls ≠ "java/lang/invoke/MethodHandle" ∧ yX9_status.cls ≠ "java/lang/invoke/VarHandle" ∧ (parseMethodDescriptor yX9_status.desc).map (fun d => d.parameters.length) = some 0 := by decide +kernel
theorem hdV_X9_trace : yX9_trace.cls = RX9 ∧ yX9_trace.cls ≠ "java/lang/invoke/MethodHandle" ∧ yX9_trace.cls ≠ "java/lang/invoke/VarHandle" ∧ (parseMethodDescriptor yX9_trace.desc).map (fun d => d.parameters.length) = some 1 := by decide +kernel
theorem hdV_X9_wall : yX9_wall.cls = RX9 ∧ yX9_wall.cls ≠ "java/lang/invoke/MethodHandle" ∧ yX9_wall.cls ≠ "java/lang/invoke/VarHandle" ∧ (parseMethodDescriptor yX9_wall.desc).map (fun d => d.parameters.length) = some 2 := by decide +kernel
set_option maxHeartbeats 4000000 in
set_option maxRecDepth 100000 in
theorem law_home {p : Program} (l : Launch) {e : Env} {s : State} {m : MethodId} {below : List Frame} {meth : Method} {c : Code} (D : va_G) (cI cZ cC cS : ClassId) (sq : Nat → Nat) {b L : Nat} {sc : Nat → Int32} {A : Nat → Prop} (C : lC p s m meth c b L sc A) (hK : kW D (tyW cI cZ cC cS) sq s) (hT : sT sq A s s.heap) (ad ay : Nat → Nat) (fq fim : Nat → Option Nat) (hL : L ≤ 3072) (i : Int32) (hi : 0 ≤ i.toInt ∧ i.toInt + 6 ≤ L) (K : ∀ (ln sn : Nat → Int32) (tz : Int32) (bf : Nat → Int32) (lt th k0 k1 : Int32) (g g0 g1 : Nat → Int) (tn : Int32) (tb : Nat → Int32) (iz : Nat → Int32) (fz : Int32) (wx wy : va_W) (H : Heap) (locs : List Loc) (ls : Array Slot), IX cI cC cS ad fq fim ln sn tz bf lt th k0 k1 g g0 g1 tn tb iz fz wx → IY cI cZ ay ln sn tz bf lt th k0 k1 g g0 g1 tn tb iz fz wy → va_P D vwCl (wx ++ wy) H → va_D A (wx ++ wy) → va_S A s.heap H locs → lv_has ls 4 [(3, .int i), (2, .ref (ay 0)), (1, .ref (ad 0)), (0, .ref b)] → W p l e room_1 s m #[Value.ref b] below meth c H locs 98 12032 (lw_Z below #[Value.ref b] s) (F0 m 1034 ls [])) {ln sn : Nat → Int32} {tz : Int32} {bf : Nat → Int32} {lt th k0 k1 : Int32} {g g0 g1 : Nat → Int} {tn : Int32} {tb : Nat → Int32} {iz : Nat → Int32} {fz : Int32} {wx wy : va_W} {H : Heap} {locs : List Loc} {ls : Array Slot} (hX_ : IX cI cC cS ad fq fim ln sn tz bf lt th k0 k1 g g0 g1 tn tb iz fz wx) (hY_ : IY cI cZ ay ln sn tz bf lt th k0 k1 g g0 g1 tn tb iz fz wy) (hP : va_P D vwCl (wx ++ wy) H) (hD : va_D A (wx ++ wy)) (hS : va_S A s.heap H locs) (hl : lv_has ls 4 [(3, .int i), (2, .ref (ay 0)), (1, .ref (ad 0)), (0, .ref b)]) : W p l e room_1 s m #[Value.ref b] below meth c H locs 98 12032 (lw_Z below #[Value.ref b] s) (F0 m 662 ls []) := by
  obtain ⟨S, hr_, hk_, hX, hbl, hA, hAf⟩ := id C
  have hbA : ¬ A b := fun z => absurd (hAf b z) (Nat.not_le.mpr hbl)
  refine lv_aload_n S.1 S.2.1 dL_law_662 rfl (lv_at hl 2 rfl) ?_
  refine lv_aload_n S.1 S.2.1 dL_law_663 rfl (lv_at hl 3 rfl) ?_
  refine lv_iload_n S.1 S.2.1 dL_law_664 rfl (lv_at hl 0 rfl) ?_
  refine lv_iconst (v := (1)) S.1 S.2.1 dL_law_665 (by decide) ?_
  refine lv_iadd S.1 S.2.1 dL_law_666 ?_
  refine lv_topi (fun x_1 ex_1 => ?_)
  have tx_1 : x_1.toInt = i.toInt + (1) := addI (A := i.toInt) (B := 1) ex_1 rfl rfl (by omega) (by omega)
  refine va_sld S.1 S.2.1 hX hbl hbA hS (in_of (by omega) (by omega)) dL_law_667 ?_
  refine lv_topi (fun v_2 ev_2 => ?_)
  refine lv_aload_n S.1 S.2.1 dL_law_668 rfl (lv_at hl 3 rfl) ?_
  refine lv_iload_n S.1 S.2.1 dL_law_669 rfl (lv_at hl 0 rfl) ?_
  refine lv_iconst (v := (2)) S.1 S.2.1 dL_law_670 (by decide) ?_
  refine lv_iadd S.1 S.2.1 dL_law_671 ?_
  refine lv_topi (fun x_3 ex_3 => ?_)
  have tx_3 : x_3.toInt = i.toInt + (2) := addI (A := i.toInt) (B := 2) ex_3 rfl rfl (by omega) (by omega)
  refine va_sld S.1 S.2.1 hX hbl hbA hS (in_of (by omega) (by omega)) dL_law_672 ?_
  refine lv_topi (fun v_4 ev_4 => ?_)
  refine lv_aload_n S.1 S.2.1 dL_law_673 rfl (lv_at hl 3 rfl) ?_
  refine lv_iload_n S.1 S.2.1 dL_law_674 rfl (lv_at hl 0 rfl) ?_
  refine lv_iconst (v := (3)) S.1 S.2.1 dL_law_675 (by decide) ?_
  refine lv_iadd S.1 S.2.1 dL_law_676 ?_
  refine lv_topi (fun x_5 ex_5 => ?_)
  have tx_5 : x_5.toInt = i.toInt + (3) := addI (A := i.toInt) (B := 3) ex_5 rfl rfl (by omega) (by omega)
  refine va_sld S.1 S.2.1 hX hbl hbA hS (in_of (by omega) (by omega)) dL_law_677 ?_
  refine lv_topi (fun v_6 ev_6 => ?_)
  obtain ⟨fs_, he_⟩ := IX_0 hX_
  refine law_ci (C := RX8) (ci := 8) (As := [.int v_2, .int v_4, .int v_6]) (fX_home l D cI cZ cC cS sq H.size ad fq fim ln sn tz bf lt th k0 k1 g g0 g1 tn tb iz fz v_2 v_4 v_6 hX_) S gL_law_X8_home rfl hdV_X8_home ⟨Nat.le_of_ble_eq_true rfl, Nat.le_of_ble_eq_true rfl⟩ ⟨Nat.le_of_ble_eq_true rfl, Nat.le_of_ble_eq_true rfl⟩ hK hT hS hA hP hD rfl he_ rfl hl.1 rfl (Nat.le_of_ble_eq_true rfl) dL_law_678 (fun r1 wx H locs hw hP hD hS => ?_)
  have hX_ := hw
  refine lv_pop S.1 S.2.1 dL_law_681 rfl ?_
  refine lv_aload_n S.1 S.2.1 dL_law_682 rfl (lv_at hl 1 rfl) ?_
  refine lv_aload_n S.1 S.2.1 dL_law_683 rfl (lv_at hl 3 rfl) ?_
  refine lv_iload_n S.1 S.2.1 dL_law_684 rfl (lv_at hl 0 rfl) ?_
  refine lv_iconst (v := (1)) S.1 S.2.1 dL_law_685 (by decide) ?_
  refine lv_iadd S.1 S.2.1 dL_law_686 ?_
  refine lv_topi (fun x_7 ex_7 => ?_)
  have qx_7 : x_1 = x_7 := ex_1.trans ex_7.symm
  subst qx_7
  refine va_sld S.1 S.2.1 hX hbl hbA hS (in_of (by omega) (by omega)) dL_law_687 ?_
  refine lv_topi (fun v_8 ev_8 => ?_)
  have qv_8 : v_2 = v_8 := ev_2.trans ev_8.symm
  subst qv_8
  refine lv_aload_n S.1 S.2.1 dL_law_688 rfl (lv_at hl 3 rfl) ?_
  refine lv_iload_n S.1 S.2.1 dL_law_689 rfl (lv_at hl 0 rfl) ?_
  refine lv_iconst (v := (2)) S.1 S.2.1 dL_law_690 (by decide) ?_
  refine lv_iadd S.1 S.2.1 dL_law_691 ?_
  refine lv_topi (fun x_9 ex_9 => ?_)
  have qx_9 : x_3 = x_9 := ex_3.trans ex_9.symm
  subst qx_9
  refine va_sld S.1 S.2.1 hX hbl hbA hS (in_of (by omega) (by omega)) dL_law_692 ?_
  refine lv_topi (fun v_10 ev_10 => ?_)
  have qv_10 : v_4 = v_10 := ev_4.trans ev_10.symm
  subst qv_10
  refine lv_aload_n S.1 S.2.1 dL_law_693 rfl (lv_at hl 3 rfl) ?_
  refine lv_iload_n S.1 S.2.1 dL_law_694 rfl (lv_at hl 0 rfl) ?_
  refine lv_iconst (v := (3)) S.1 S.2.1 dL_law_695 (by decide) ?_
  refine lv_iadd S.1 S.2.1 dL_law_696 ?_
  refine lv_topi (fun x_11 ex_11 => ?_)
  have qx_11 : x_5 = x_11 := ex_5.trans ex_11.symm
  subst qx_11
  refine va_sld S.1 S.2.1 hX hbl hbA hS (in_of (by omega) (by omega)) dL_law_697 ?_
  refine lv_topi (fun v_12 ev_12 => ?_)
  have qv_12 : v_6 = v_12 := ev_6.trans ev_12.symm
  subst qv_12
  obtain ⟨fs_, he_⟩ := IY_0 hY_
  refine law_ci (C := RX9) (ci := 9) (As := [.int v_2, .int v_4, .int v_6]) (fY_home l D cI cZ cC cS sq H.size ay ln sn tz bf lt th k0 k1 g g0 g1 tn tb iz fz v_2 v_4 v_6 hY_) S gL_law_X9_home rfl hdV_X9_home ⟨Nat.le_of_ble_eq_true rfl, Nat.le_of_ble_eq_true rfl⟩ ⟨Nat.le_of_ble_eq_true rfl, Nat.le_of_ble_eq_true rfl⟩ hK hT hS hA hP hD rfl he_ rfl hl.1 rfl (Nat.le_of_ble_eq_true rfl) dL_law_698 (fun r2 wy H locs hw hP hD hS => ?_)
  have hY_ := hw
  refine lv_pop S.1 S.2.1 dL_law_701 rfl ?_
  refine lv_goto (tgt := 1034) S.1 S.2.1 dL_law_702 (by decide) ?_
  exact K ln sn tz bf lt th k0 k1 g g0 g1 tn tb iz fz wx wy H _ ls hX_ hY_ hP hD hS hl
set_option maxHeartbeats 4000000 in
set_option maxRecDepth 100000 in
theorem law_nothing {p : Program} (l : Launch) {e : Env} {s : State} {m : MethodId} {below : List Frame} {meth : Method} {c : Code} (D : va_G) (cI cZ cC cS : ClassId) (sq : Nat → Nat) {b L : Nat} {sc : Nat → Int32} {A : Nat → Prop} (C : lC p s m meth c b L sc A) (hK : kW D (tyW cI cZ cC cS) sq s) (hT : sT sq A s s.heap) (ad ay : Nat → Nat) (fq fim : Nat → Option Nat) (hL : L ≤ 3072) (i : Int32) (hi : 0 ≤ i.toInt ∧ i.toInt + 6 ≤ L) (K : ∀ (ln sn : Nat → Int32) (tz : Int32) (bf : Nat → Int32) (lt th k0 k1 : Int32) (g g0 g1 : Nat → Int) (tn : Int32) (tb : Nat → Int32) (iz : Nat → Int32) (fz : Int32) (wx wy : va_W) (H : Heap) (locs : List Loc) (ls : Array Slot), IX cI cC cS ad fq fim ln sn tz bf lt th k0 k1 g g0 g1 tn tb iz fz wx → IY cI cZ ay ln sn tz bf lt th k0 k1 g g0 g1 tn tb iz fz wy → va_P D vwCl (wx ++ wy) H → va_D A (wx ++ wy) → va_S A s.heap H locs → lv_has ls 4 [(3, .int i), (2, .ref (ay 0)), (1, .ref (ad 0)), (0, .ref b)] → W p l e room_1 s m #[Value.ref b] below meth c H locs 98 12032 (lw_Z below #[Value.ref b] s) (F0 m 1034 ls [])) {ln sn : Nat → Int32} {tz : Int32} {bf : Nat → Int32} {lt th k0 k1 : Int32} {g g0 g1 : Nat → Int} {tn : Int32} {tb : Nat → Int32} {iz : Nat → Int32} {fz : Int32} {wx wy : va_W} {H : Heap} {locs : List Loc} {ls : Array Slot} (hX_ : IX cI cC cS ad fq fim ln sn tz bf lt th k0 k1 g g0 g1 tn tb iz fz wx) (hY_ : IY cI cZ ay ln sn tz bf lt th k0 k1 g g0 g1 tn tb iz fz wy) (hP : va_P D vwCl (wx ++ wy) H) (hD : va_D A (wx ++ wy)) (hS : va_S A s.heap H locs) (hl : lv_has ls 4 [(3, .int i), (2, .ref (ay 0)), (1, .ref (ad 0)), (0, .ref b)]) : W p l e room_1 s m #[Value.ref b] below meth c H locs 98 12032 (lw_Z below #[Value.ref b] s) (F0 m 705 ls []) := by
  obtain ⟨S, hr_, hk_, hX, hbl, hA, hAf⟩ := id C
  have hbA : ¬ A b := fun z => absurd (hAf b z) (Nat.not_le.mpr hbl)
  refine lv_aload_n S.1 S.2.1 dL_law_705 rfl (lv_at hl 2 rfl) ?_
  refine lv_aload_n S.1 S.2.1 dL_law_706 rfl (lv_at hl 3 rfl) ?_
  refine lv_iload_n S.1 S.2.1 dL_law_707 rfl (lv_at hl 0 rfl) ?_
  refine lv_iconst (v := (1)) S.1 S.2.1 dL_law_708 (by decide) ?_
  refine lv_iadd S.1 S.2.1 dL_law_709 ?_
  refine lv_topi (fun x_1 ex_1 => ?_)
  have tx_1 : x_1.toInt = i.toInt + (1) := addI (A := i.toInt) (B := 1) ex_1 rfl rfl (by omega) (by omega)
  refine va_sld S.1 S.2.1 hX hbl hbA hS (in_of (by omega) (by omega)) dL_law_710 ?_
  refine lv_topi (fun v_2 ev_2 => ?_)
  obtain ⟨fs_, he_⟩ := IX_0 hX_
  refine law_ci (C := RX8) (ci := 8) (As := [.int v_2]) (fX_nothing l D cI cZ cC cS sq H.size ad fq fim ln sn tz bf lt th k0 k1 g g0 g1 tn tb iz fz v_2 hX_) S gL_law_X8_nothing rfl hdV_X8_nothing ⟨Nat.le_of_ble_eq_true rfl, Nat.le_of_ble_eq_true rfl⟩ ⟨Nat.le_of_ble_eq_true rfl, Nat.le_of_ble_eq_true rfl⟩ hK hT hS hA hP hD rfl he_ rfl hl.1 rfl (Nat.le_of_ble_eq_true rfl) dL_law_711 (fun r1 wx H locs hw hP hD hS => ?_)
  have hX_ := hw
  refine lv_pop S.1 S.2.1 dL_law_714 rfl ?_
  refine lv_aload_n S.1 S.2.1 dL_law_715 rfl (lv_at hl 1 rfl) ?_
  refine lv_aload_n S.1 S.2.1 dL_law_716 rfl (lv_at hl 3 rfl) ?_
  refine lv_iload_n S.1 S.2.1 dL_law_717 rfl (lv_at hl 0 rfl) ?_
  refine lv_iconst (v := (1)) S.1 S.2.1 dL_law_718 (by decide) ?_
  refine lv_iadd S.1 S.2.1 dL_law_719 ?_
  refine lv_topi (fun x_3 ex_3 => ?_)
  have qx_3 : x_1 = x_3 := ex_1.trans ex_3.symm
  subst qx_3
  refine va_sld S.1 S.2.1 hX hbl hbA hS (in_of (by omega) (by omega)) dL_law_720 ?_
  refine lv_topi (fun v_4 ev_4 => ?_)
  have qv_4 : v_2 = v_4 := ev_2.trans ev_4.symm
  subst qv_4
  obtain ⟨fs_, he_⟩ := IY_0 hY_
  refine law_ci (C := RX9) (ci := 9) (As := [.int v_2]) (fY_nothing l D cI cZ cC cS sq H.size ay ln sn tz bf lt th k0 k1 g g0 g1 tn tb iz fz v_2 hY_) S gL_law_X9_nothing rfl hdV_X9_nothing ⟨Nat.le_of_ble_eq_true rfl, Nat.le_of_ble_eq_true rfl⟩ ⟨Nat.le_of_ble_eq_true rfl, Nat.le_of_ble_eq_true rfl⟩ hK hT hS hA hP hD rfl he_ rfl hl.1 rfl (Nat.le_of_ble_eq_true rfl) dL_law_721 (fun r2 wy H locs hw hP hD hS => ?_)
  have hY_ := hw
  refine lv_pop S.1 S.2.1 dL_law_724 rfl ?_
  refine lv_goto (tgt := 1034) S.1 S.2.1 dL_law_725 (by decide) ?_
  exact K ln sn tz bf lt th k0 k1 g g0 g1 tn tb iz fz wx wy H _ ls hX_ hY_ hP hD hS hl
set_option maxHeartbeats 4000000 in
set_option maxRecDepth 100000 in
theorem law_beauty {p : Program} (l : Launch) {e : Env} {s : State} {m : MethodId} {below : List Frame} {meth : Method} {c : Code} (D : va_G) (cI cZ cC cS : ClassId) (sq : Nat → Nat) {b L : Nat} {sc : Nat → Int32} {A : Nat → Prop} (C : lC p s m meth c b L sc A) (hK : kW D (tyW cI cZ cC cS) sq s) (hT : sT sq A s s.heap) (ad ay : Nat → Nat) (fq fim : Nat → Option Nat) (hL : L ≤ 3072) (i : Int32) (hi : 0 ≤ i.toInt ∧ i.toInt + 6 ≤ L) (K : ∀ (ln sn : Nat → Int32) (tz : Int32) (bf : Nat → Int32) (lt th k0 k1 : Int32) (g g0 g1 : Nat → Int) (tn : Int32) (tb : Nat → Int32) (iz : Nat → Int32) (fz : Int32) (wx wy : va_W) (H : Heap) (locs : List Loc) (ls : Array Slot), IX cI cC cS ad fq fim ln sn tz bf lt th k0 k1 g g0 g1 tn tb iz fz wx → IY cI cZ ay ln sn tz bf lt th k0 k1 g g0 g1 tn tb iz fz wy → va_P D vwCl (wx ++ wy) H → va_D A (wx ++ wy) → va_S A s.heap H locs → lv_has ls 4 [(3, .int i), (2, .ref (ay 0)), (1, .ref (ad 0)), (0, .ref b)] → W p l e room_1 s m #[Value.ref b] below meth c H locs 98 12032 (lw_Z below #[Value.ref b] s) (F0 m 1034 ls [])) {ln sn : Nat → Int32} {tz : Int32} {bf : Nat → Int32} {lt th k0 k1 : Int32} {g g0 g1 : Nat → Int} {tn : Int32} {tb : Nat → Int32} {iz : Nat → Int32} {fz : Int32} {wx wy : va_W} {H : Heap} {locs : List Loc} {ls : Array Slot} (hX_ : IX cI cC cS ad fq fim ln sn tz bf lt th k0 k1 g g0 g1 tn tb iz fz wx) (hY_ : IY cI cZ ay ln sn tz bf lt th k0 k1 g g0 g1 tn tb iz fz wy) (hP : va_P D vwCl (wx ++ wy) H) (hD : va_D A (wx ++ wy)) (hS : va_S A s.heap H locs) (hl : lv_has ls 4 [(3, .int i), (2, .ref (ay 0)), (1, .ref (ad 0)), (0, .ref b)]) : W p l e room_1 s m #[Value.ref b] below meth c H locs 98 12032 (lw_Z below #[Value.ref b] s) (F0 m 728 ls []) := by
  obtain ⟨S, hr_, hk_, hX, hbl, hA, hAf⟩ := id C
  have hbA : ¬ A b := fun z => absurd (hAf b z) (Nat.not_le.mpr hbl)
  refine lv_aload_n S.1 S.2.1 dL_law_728 rfl (lv_at hl 2 rfl) ?_
  refine lv_aload_n S.1 S.2.1 dL_law_729 rfl (lv_at hl 3 rfl) ?_
  refine lv_iload_n S.1 S.2.1 dL_law_730 rfl (lv_at hl 0 rfl) ?_
  refine lv_iconst (v := (1)) S.1 S.2.1 dL_law_731 (by decide) ?_
  refine lv_iadd S.1 S.2.1 dL_law_732 ?_
  refine lv_topi (fun x_1 ex_1 => ?_)
  have tx_1 : x_1.toInt = i.toInt + (1) := addI (A := i.toInt) (B := 1) ex_1 rfl rfl (by omega) (by omega)
  refine va_sld S.1 S.2.1 hX hbl hbA hS (in_of (by omega) (by omega)) dL_law_733 ?_
  refine lv_topi (fun v_2 ev_2 => ?_)
  obtain ⟨fs_, he_⟩ := IX_0 hX_
  refine law_ci (C := RX8) (ci := 8) (As := [.int v_2]) (fX_beauty l D cI cZ cC cS sq H.size ad fq fim ln sn tz bf lt th k0 k1 g g0 g1 tn tb iz fz v_2 hX_) S gL_law_X8_beauty rfl hdV_X8_beauty ⟨Nat.le_of_ble_eq_true rfl, Nat.le_of_ble_eq_true rfl⟩ ⟨Nat.le_of_ble_eq_true rfl, Nat.le_of_ble_eq_true rfl⟩ hK hT hS hA hP hD rfl he_ rfl hl.1 rfl (Nat.le_of_ble_eq_true rfl) dL_law_734 (fun r1 wx H locs hw hP hD hS => ?_)
  have hX_ := hw
  refine lv_pop S.1 S.2.1 dL_law_737 rfl ?_
  refine lv_aload_n S.1 S.2.1 dL_law_738 rfl (lv_at hl 1 rfl) ?_
  refine lv_aload_n S.1 S.2.1 dL_law_739 rfl (lv_at hl 3 rfl) ?_
  refine lv_iload_n S.1 S.2.1 dL_law_740 rfl (lv_at hl 0 rfl) ?_
  refine lv_iconst (v := (1)) S.1 S.2.1 dL_law_741 (by decide) ?_
  refine lv_iadd S.1 S.2.1 dL_law_742 ?_
  refine lv_topi (fun x_3 ex_3 => ?_)
  have qx_3 : x_1 = x_3 := ex_1.trans ex_3.symm
  subst qx_3
  refine va_sld S.1 S.2.1 hX hbl hbA hS (in_of (by omega) (by omega)) dL_law_743 ?_
  refine lv_topi (fun v_4 ev_4 => ?_)
  have qv_4 : v_2 = v_4 := ev_2.trans ev_4.symm
  subst qv_4
  obtain ⟨fs_, he_⟩ := IY_0 hY_
  refine law_ci (C := RX9) (ci := 9) (As := [.int v_2]) (fY_beauty l D cI cZ cC cS sq H.size ay ln sn tz bf lt th k0 k1 g g0 g1 tn tb iz fz v_2 hY_) S gL_law_X9_beauty rfl hdV_X9_beauty ⟨Nat.le_of_ble_eq_true rfl, Nat.le_of_ble_eq_true rfl⟩ ⟨Nat.le_of_ble_eq_true rfl, Nat.le_of_ble_eq_true rfl⟩ hK hT hS hA hP hD rfl he_ rfl hl.1 rfl (Nat.le_of_ble_eq_true rfl) dL_law_744 (fun r2 wy H locs hw hP hD hS => ?_)
  have hY_ := hw
  refine lv_pop S.1 S.2.1 dL_law_747 rfl ?_
  refine lv_goto (tgt := 1034) S.1 S.2.1 dL_law_748 (by decide) ?_
  exact K ln sn tz bf lt th k0 k1 g g0 g1 tn tb iz fz wx wy H _ ls hX_ hY_ hP hD hS hl
set_option maxHeartbeats 4000000 in
set_option maxRecDepth 100000 in
theorem law_earns {p : Program} (l : Launch) {e : Env} {s : State} {m : MethodId} {below : List Frame} {meth : Method} {c : Code} (D : va_G) (cI cZ cC cS : ClassId) (sq : Nat → Nat) {b L : Nat} {sc : Nat → Int32} {A : Nat → Prop} (C : lC p s m meth c b L sc A) (hK : kW D (tyW cI cZ cC cS) sq s) (hT : sT sq A s s.heap) (ad ay : Nat → Nat) (fq fim : Nat → Option Nat) (hL : L ≤ 3072) (i : Int32) (hi : 0 ≤ i.toInt ∧ i.toInt + 6 ≤ L) (K : ∀ (ln sn : Nat → Int32) (tz : Int32) (bf : Nat → Int32) (lt th k0 k1 : Int32) (g g0 g1 : Nat → Int) (tn : Int32) (tb : Nat → Int32) (iz : Nat → Int32) (fz : Int32) (wx wy : va_W) (H : Heap) (locs : List Loc) (ls : Array Slot), IX cI cC cS ad fq fim ln sn tz bf lt th k0 k1 g g0 g1 tn tb iz fz wx → IY cI cZ ay ln sn tz bf lt th k0 k1 g g0 g1 tn tb iz fz wy → va_P D vwCl (wx ++ wy) H → va_D A (wx ++ wy) → va_S A s.heap H locs → lv_has ls 4 [(3, .int i), (2, .ref (ay 0)), (1, .ref (ad 0)), (0, .ref b)] → W p l e room_1 s m #[Value.ref b] below meth c H locs 98 12032 (lw_Z below #[Value.ref b] s) (F0 m 1034 ls [])) {ln sn : Nat → Int32} {tz : Int32} {bf : Nat → Int32} {lt th k0 k1 : Int32} {g g0 g1 : Nat → Int} {tn : Int32} {tb : Nat → Int32} {iz : Nat → Int32} {fz : Int32} {wx wy : va_W} {H : Heap} {locs : List Loc} {ls : Array Slot} (hX_ : IX cI cC cS ad fq fim ln sn tz bf lt th k0 k1 g g0 g1 tn tb iz fz wx) (hY_ : IY cI cZ ay ln sn tz bf lt th k0 k1 g g0 g1 tn tb iz fz wy) (hP : va_P D vwCl (wx ++ wy) H) (hD : va_D A (wx ++ wy)) (hS : va_S A s.heap H locs) (hl : lv_has ls 4 [(3, .int i), (2, .ref (ay 0)), (1, .ref (ad 0)), (0, .ref b)]) : W p l e room_1 s m #[Value.ref b] below meth c H locs 98 12032 (lw_Z below #[Value.ref b] s) (F0 m 751 ls []) := by
  obtain ⟨S, hr_, hk_, hX, hbl, hA, hAf⟩ := id C
  have hbA : ¬ A b := fun z => absurd (hAf b z) (Nat.not_le.mpr hbl)
  refine lv_aload_n S.1 S.2.1 dL_law_751 rfl (lv_at hl 2 rfl) ?_
  refine lv_aload_n S.1 S.2.1 dL_law_752 rfl (lv_at hl 3 rfl) ?_
  refine lv_iload_n S.1 S.2.1 dL_law_753 rfl (lv_at hl 0 rfl) ?_
  refine lv_iconst (v := (1)) S.1 S.2.1 dL_law_754 (by decide) ?_
  refine lv_iadd S.1 S.2.1 dL_law_755 ?_
  refine lv_topi (fun x_1 ex_1 => ?_)
  have tx_1 : x_1.toInt = i.toInt + (1) := addI (A := i.toInt) (B := 1) ex_1 rfl rfl (by omega) (by omega)
  refine va_sld S.1 S.2.1 hX hbl hbA hS (in_of (by omega) (by omega)) dL_law_756 ?_
  refine lv_topi (fun v_2 ev_2 => ?_)
  refine lv_aload_n S.1 S.2.1 dL_law_757 rfl (lv_at hl 3 rfl) ?_
  refine lv_iload_n S.1 S.2.1 dL_law_758 rfl (lv_at hl 0 rfl) ?_
  refine lv_iconst (v := (2)) S.1 S.2.1 dL_law_759 (by decide) ?_
  refine lv_iadd S.1 S.2.1 dL_law_760 ?_
  refine lv_topi (fun x_3 ex_3 => ?_)
  have tx_3 : x_3.toInt = i.toInt + (2) := addI (A := i.toInt) (B := 2) ex_3 rfl rfl (by omega) (by omega)
  refine va_sld S.1 S.2.1 hX hbl hbA hS (in_of (by omega) (by omega)) dL_law_761 ?_
  refine lv_topi (fun v_4 ev_4 => ?_)
  obtain ⟨fs_, he_⟩ := IX_0 hX_
  refine law_ci (C := RX8) (ci := 8) (As := [.int v_2, .int v_4]) (fX_earns l D cI cZ cC cS sq H.size ad fq fim ln sn tz bf lt th k0 k1 g g0 g1 tn tb iz fz v_2 v_4 hX_) S gL_law_X8_earns rfl hdV_X8_earns ⟨Nat.le_of_ble_eq_true rfl, Nat.le_of_ble_eq_true rfl⟩ ⟨Nat.le_of_ble_eq_true rfl, Nat.le_of_ble_eq_true rfl⟩ hK hT hS hA hP hD rfl he_ rfl hl.1 rfl (Nat.le_of_ble_eq_true rfl) dL_law_762 (fun r1 wx H locs hw hP hD hS => ?_)
  have hX_ := hw
  refine lv_pop S.1 S.2.1 dL_law_765 rfl ?_
  refine lv_aload_n S.1 S.2.1 dL_law_766 rfl (lv_at hl 1 rfl) ?_
  refine lv_aload_n S.1 S.2.1 dL_law_767 rfl (lv_at hl 3 rfl) ?_
  refine lv_iload_n S.1 S.2.1 dL_law_768 rfl (lv_at hl 0 rfl) ?_
  refine lv_iconst (v := (1)) S.1 S.2.1 dL_law_769 (by decide) ?_
  refine lv_iadd S.1 S.2.1 dL_law_770 ?_
  refine lv_topi (fun x_5 ex_5 => ?_)
  have qx_5 : x_1 = x_5 := ex_1.trans ex_5.symm
  subst qx_5
  refine va_sld S.1 S.2.1 hX hbl hbA hS (in_of (by omega) (by omega)) dL_law_771 ?_
  refine lv_topi (fun v_6 ev_6 => ?_)
  have qv_6 : v_2 = v_6 := ev_2.trans ev_6.symm
  subst qv_6
  refine lv_aload_n S.1 S.2.1 dL_law_772 rfl (lv_at hl 3 rfl) ?_
  refine lv_iload_n S.1 S.2.1 dL_law_773 rfl (lv_at hl 0 rfl) ?_
  refine lv_iconst (v := (2)) S.1 S.2.1 dL_law_774 (by decide) ?_
  refine lv_iadd S.1 S.2.1 dL_law_775 ?_
  refine lv_topi (fun x_7 ex_7 => ?_)
  have qx_7 : x_3 = x_7 := ex_3.trans ex_7.symm
  subst qx_7
  refine va_sld S.1 S.2.1 hX hbl hbA hS (in_of (by omega) (by omega)) dL_law_776 ?_
  refine lv_topi (fun v_8 ev_8 => ?_)
  have qv_8 : v_4 = v_8 := ev_4.trans ev_8.symm
  subst qv_8
  obtain ⟨fs_, he_⟩ := IY_0 hY_
  refine law_ci (C := RX9) (ci := 9) (As := [.int v_2, .int v_4]) (fY_earns l D cI cZ cC cS sq H.size ay ln sn tz bf lt th k0 k1 g g0 g1 tn tb iz fz v_2 v_4 hY_) S gL_law_X9_earns rfl hdV_X9_earns ⟨Nat.le_of_ble_eq_true rfl, Nat.le_of_ble_eq_true rfl⟩ ⟨Nat.le_of_ble_eq_true rfl, Nat.le_of_ble_eq_true rfl⟩ hK hT hS hA hP hD rfl he_ rfl hl.1 rfl (Nat.le_of_ble_eq_true rfl) dL_law_777 (fun r2 wy H locs hw hP hD hS => ?_)
  have hY_ := hw
  refine lv_pop S.1 S.2.1 dL_law_780 rfl ?_
  refine lv_goto (tgt := 1034) S.1 S.2.1 dL_law_781 (by decide) ?_
  exact K ln sn tz bf lt th k0 k1 g g0 g1 tn tb iz fz wx wy H _ ls hX_ hY_ hP hD hS hl
set_option maxHeartbeats 4000000 in
set_option maxRecDepth 100000 in
theorem law_rivals {p : Program} (l : Launch) {e : Env} {s : State} {m : MethodId} {below : List Frame} {meth : Method} {c : Code} (D : va_G) (cI cZ cC cS : ClassId) (sq : Nat → Nat) {b L : Nat} {sc : Nat → Int32} {A : Nat → Prop} (C : lC p s m meth c b L sc A) (hK : kW D (tyW cI cZ cC cS) sq s) (hT : sT sq A s s.heap) (ad ay : Nat → Nat) (fq fim : Nat → Option Nat) (hL : L ≤ 3072) (i : Int32) (hi : 0 ≤ i.toInt ∧ i.toInt + 6 ≤ L) (K : ∀ (ln sn : Nat → Int32) (tz : Int32) (bf : Nat → Int32) (lt th k0 k1 : Int32) (g g0 g1 : Nat → Int) (tn : Int32) (tb : Nat → Int32) (iz : Nat → Int32) (fz : Int32) (wx wy : va_W) (H : Heap) (locs : List Loc) (ls : Array Slot), IX cI cC cS ad fq fim ln sn tz bf lt th k0 k1 g g0 g1 tn tb iz fz wx → IY cI cZ ay ln sn tz bf lt th k0 k1 g g0 g1 tn tb iz fz wy → va_P D vwCl (wx ++ wy) H → va_D A (wx ++ wy) → va_S A s.heap H locs → lv_has ls 4 [(3, .int i), (2, .ref (ay 0)), (1, .ref (ad 0)), (0, .ref b)] → W p l e room_1 s m #[Value.ref b] below meth c H locs 98 12032 (lw_Z below #[Value.ref b] s) (F0 m 1034 ls [])) {ln sn : Nat → Int32} {tz : Int32} {bf : Nat → Int32} {lt th k0 k1 : Int32} {g g0 g1 : Nat → Int} {tn : Int32} {tb : Nat → Int32} {iz : Nat → Int32} {fz : Int32} {wx wy : va_W} {H : Heap} {locs : List Loc} {ls : Array Slot} (hX_ : IX cI cC cS ad fq fim ln sn tz bf lt th k0 k1 g g0 g1 tn tb iz fz wx) (hY_ : IY cI cZ ay ln sn tz bf lt th k0 k1 g g0 g1 tn tb iz fz wy) (hP : va_P D vwCl (wx ++ wy) H) (hD : va_D A (wx ++ wy)) (hS : va_S A s.heap H locs) (hl : lv_has ls 4 [(3, .int i), (2, .ref (ay 0)), (1, .ref (ad 0)), (0, .ref b)]) : W p l e room_1 s m #[Value.ref b] below meth c H locs 98 12032 (lw_Z below #[Value.ref b] s) (F0 m 784 ls []) := by
  obtain ⟨S, hr_, hk_, hX, hbl, hA, hAf⟩ := id C
  have hbA : ¬ A b := fun z => absurd (hAf b z) (Nat.not_le.mpr hbl)
  refine lv_aload_n S.1 S.2.1 dL_law_784 rfl (lv_at hl 2 rfl) ?_
  refine lv_aload_n S.1 S.2.1 dL_law_785 rfl (lv_at hl 3 rfl) ?_
  refine lv_iload_n S.1 S.2.1 dL_law_786 rfl (lv_at hl 0 rfl) ?_
  refine lv_iconst (v := (1)) S.1 S.2.1 dL_law_787 (by decide) ?_
  refine lv_iadd S.1 S.2.1 dL_law_788 ?_
  refine lv_topi (fun x_1 ex_1 => ?_)
  have tx_1 : x_1.toInt = i.toInt + (1) := addI (A := i.toInt) (B := 1) ex_1 rfl rfl (by omega) (by omega)
  refine va_sld S.1 S.2.1 hX hbl hbA hS (in_of (by omega) (by omega)) dL_law_789 ?_
  refine lv_topi (fun v_2 ev_2 => ?_)
  obtain ⟨fs_, he_⟩ := IX_0 hX_
  refine law_ci (C := RX8) (ci := 8) (As := [.int v_2]) (fX_rivals l D cI cZ cC cS sq H.size ad fq fim ln sn tz bf lt th k0 k1 g g0 g1 tn tb iz fz v_2 hX_) S gL_law_X8_rivals rfl hdV_X8_rivals ⟨Nat.le_of_ble_eq_true rfl, Nat.le_of_ble_eq_true rfl⟩ ⟨Nat.le_of_ble_eq_true rfl, Nat.le_of_ble_eq_true rfl⟩ hK hT hS hA hP hD rfl he_ rfl hl.1 rfl (Nat.le_of_ble_eq_true rfl) dL_law_790 (fun r1 wx H locs hw hP hD hS => ?_)
  have hX_ := hw
  refine lv_pop S.1 S.2.1 dL_law_793 rfl ?_
  refine lv_aload_n S.1 S.2.1 dL_law_794 rfl (lv_at hl 1 rfl) ?_
  refine lv_aload_n S.1 S.2.1 dL_law_795 rfl (lv_at hl 3 rfl) ?_
  refine lv_iload_n S.1 S.2.1 dL_law_796 rfl (lv_at hl 0 rfl) ?_
  refine lv_iconst (v := (1)) S.1 S.2.1 dL_law_797 (by decide) ?_
  refine lv_iadd S.1 S.2.1 dL_law_798 ?_
  refine lv_topi (fun x_3 ex_3 => ?_)
  have qx_3 : x_1 = x_3 := ex_1.trans ex_3.symm
  subst qx_3
  refine va_sld S.1 S.2.1 hX hbl hbA hS (in_of (by omega) (by omega)) dL_law_799 ?_
  refine lv_topi (fun v_4 ev_4 => ?_)
  have qv_4 : v_2 = v_4 := ev_2.trans ev_4.symm
  subst qv_4
  obtain ⟨fs_, he_⟩ := IY_0 hY_
  refine law_ci (C := RX9) (ci := 9) (As := [.int v_2]) (fY_rivals l D cI cZ cC cS sq H.size ay ln sn tz bf lt th k0 k1 g g0 g1 tn tb iz fz v_2 hY_) S gL_law_X9_rivals rfl hdV_X9_rivals ⟨Nat.le_of_ble_eq_true rfl, Nat.le_of_ble_eq_true rfl⟩ ⟨Nat.le_of_ble_eq_true rfl, Nat.le_of_ble_eq_true rfl⟩ hK hT hS hA hP hD rfl he_ rfl hl.1 rfl (Nat.le_of_ble_eq_true rfl) dL_law_800 (fun r2 wy H locs hw hP hD hS => ?_)
  have hY_ := hw
  refine lv_pop S.1 S.2.1 dL_law_803 rfl ?_
  refine lv_goto (tgt := 1034) S.1 S.2.1 dL_law_804 (by decide) ?_
  exact K ln sn tz bf lt th k0 k1 g g0 g1 tn tb iz fz wx wy H _ ls hX_ hY_ hP hD hS hl
set_option maxHeartbeats 4000000 in
set_option maxRecDepth 100000 in
theorem law_wall {p : Program} (l : Launch) {e : Env} {s : State} {m : MethodId} {below : List Frame} {meth : Method} {c : Code} (D : va_G) (cI cZ cC cS : ClassId) (sq : Nat → Nat) {b L : Nat} {sc : Nat → Int32} {A : Nat → Prop} (C : lC p s m meth c b L sc A) (hK : kW D (tyW cI cZ cC cS) sq s) (hT : sT sq A s s.heap) (ad ay : Nat → Nat) (fq fim : Nat → Option Nat) (hL : L ≤ 3072) (i : Int32) (hi : 0 ≤ i.toInt ∧ i.toInt + 6 ≤ L) (K : ∀ (ln sn : Nat → Int32) (tz : Int32) (bf : Nat → Int32) (lt th k0 k1 : Int32) (g g0 g1 : Nat → Int) (tn : Int32) (tb : Nat → Int32) (iz : Nat → Int32) (fz : Int32) (wx wy : va_W) (H : Heap) (locs : List Loc) (ls : Array Slot), IX cI cC cS ad fq fim ln sn tz bf lt th k0 k1 g g0 g1 tn tb iz fz wx → IY cI cZ ay ln sn tz bf lt th k0 k1 g g0 g1 tn tb iz fz wy → va_P D vwCl (wx ++ wy) H → va_D A (wx ++ wy) → va_S A s.heap H locs → lv_has ls 4 [(3, .int i), (2, .ref (ay 0)), (1, .ref (ad 0)), (0, .ref b)] → W p l e room_1 s m #[Value.ref b] below meth c H locs 98 12032 (lw_Z below #[Value.ref b] s) (F0 m 1034 ls [])) {ln sn : Nat → Int32} {tz : Int32} {bf : Nat → Int32} {lt th k0 k1 : Int32} {g g0 g1 : Nat → Int} {tn : Int32} {tb : Nat → Int32} {iz : Nat → Int32} {fz : Int32} {wx wy : va_W} {H : Heap} {locs : List Loc} {ls : Array Slot} (hX_ : IX cI cC cS ad fq fim ln sn tz bf lt th k0 k1 g g0 g1 tn tb iz fz wx) (hY_ : IY cI cZ ay ln sn tz bf lt th k0 k1 g g0 g1 tn tb iz fz wy) (hP : va_P D vwCl (wx ++ wy) H) (hD : va_D A (wx ++ wy)) (hS : va_S A s.heap H locs) (hl : lv_has ls 4 [(3, .int i), (2, .ref (ay 0)), (1, .ref (ad 0)), (0, .ref b)]) : W p l e room_1 s m #[Value.ref b] below meth c H locs 98 12032 (lw_Z below #[Value.ref b] s) (F0 m 807 ls []) := by
  obtain ⟨S, hr_, hk_, hX, hbl, hA, hAf⟩ := id C
  have hbA : ¬ A b := fun z => absurd (hAf b z) (Nat.not_le.mpr hbl)
  refine lv_aload_n S.1 S.2.1 dL_law_807 rfl (lv_at hl 2 rfl) ?_
  refine lv_aload_n S.1 S.2.1 dL_law_808 rfl (lv_at hl 3 rfl) ?_
  refine lv_iload_n S.1 S.2.1 dL_law_809 rfl (lv_at hl 0 rfl) ?_
  refine lv_iconst (v := (1)) S.1 S.2.1 dL_law_810 (by decide) ?_
  refine lv_iadd S.1 S.2.1 dL_law_811 ?_
  refine lv_topi (fun x_1 ex_1 => ?_)
  have tx_1 : x_1.toInt = i.toInt + (1) := addI (A := i.toInt) (B := 1) ex_1 rfl rfl (by omega) (by omega)
  refine va_sld S.1 S.2.1 hX hbl hbA hS (in_of (by omega) (by omega)) dL_law_812 ?_
  refine lv_topi (fun v_2 ev_2 => ?_)
  refine lv_aload_n S.1 S.2.1 dL_law_813 rfl (lv_at hl 3 rfl) ?_
  refine lv_iload_n S.1 S.2.1 dL_law_814 rfl (lv_at hl 0 rfl) ?_
  refine lv_iconst (v := (2)) S.1 S.2.1 dL_law_815 (by decide) ?_
  refine lv_iadd S.1 S.2.1 dL_law_816 ?_
  refine lv_topi (fun x_3 ex_3 => ?_)
  have tx_3 : x_3.toInt = i.toInt + (2) := addI (A := i.toInt) (B := 2) ex_3 rfl rfl (by omega) (by omega)
  refine va_sld S.1 S.2.1 hX hbl hbA hS (in_of (by omega) (by omega)) dL_law_817 ?_
  refine lv_topi (fun v_4 ev_4 => ?_)
  obtain ⟨fs_, he_⟩ := IX_0 hX_
  refine law_ci (C := RX8) (ci := 8) (As := [.int v_2, .int v_4]) (fX_wall l D cI cZ cC cS sq H.size ad fq fim ln sn tz bf lt th k0 k1 g g0 g1 tn tb iz fz v_2 v_4 hX_) S gL_law_X8_wall rfl hdV_X8_wall ⟨Nat.le_of_ble_eq_true rfl, Nat.le_of_ble_eq_true rfl⟩ ⟨Nat.le_of_ble_eq_true rfl, Nat.le_of_ble_eq_true rfl⟩ hK hT hS hA hP hD rfl he_ rfl hl.1 rfl (Nat.le_of_ble_eq_true rfl) dL_law_818 (fun r1 wx H locs hw hP hD hS => ?_)
  have hX_ := hw
  refine lv_pop S.1 S.2.1 dL_law_821 rfl ?_
  refine lv_aload_n S.1 S.2.1 dL_law_822 rfl (lv_at hl 1 rfl) ?_
  refine lv_aload_n S.1 S.2.1 dL_law_823 rfl (lv_at hl 3 rfl) ?_
  refine lv_iload_n S.1 S.2.1 dL_law_824 rfl (lv_at hl 0 rfl) ?_
  refine lv_iconst (v := (1)) S.1 S.2.1 dL_law_825 (by decide) ?_
  refine lv_iadd S.1 S.2.1 dL_law_826 ?_
  refine lv_topi (fun x_5 ex_5 => ?_)
  have qx_5 : x_1 = x_5 := ex_1.trans ex_5.symm
  subst qx_5
  refine va_sld S.1 S.2.1 hX hbl hbA hS (in_of (by omega) (by omega)) dL_law_827 ?_
  refine lv_topi (fun v_6 ev_6 => ?_)
  have qv_6 : v_2 = v_6 := ev_2.trans ev_6.symm
  subst qv_6
  refine lv_aload_n S.1 S.2.1 dL_law_828 rfl (lv_at hl 3 rfl) ?_
  refine lv_iload_n S.1 S.2.1 dL_law_829 rfl (lv_at hl 0 rfl) ?_
  refine lv_iconst (v := (2)) S.1 S.2.1 dL_law_830 (by decide) ?_
  refine lv_iadd S.1 S.2.1 dL_law_831 ?_
  refine lv_topi (fun x_7 ex_7 => ?_)
  have qx_7 : x_3 = x_7 := ex_3.trans ex_7.symm
  subst qx_7
  refine va_sld S.1 S.2.1 hX hbl hbA hS (in_of (by omega) (by omega)) dL_law_832 ?_
  refine lv_topi (fun v_8 ev_8 => ?_)
  have qv_8 : v_4 = v_8 := ev_4.trans ev_8.symm
  subst qv_8
  obtain ⟨fs_, he_⟩ := IY_0 hY_
  refine law_ci (C := RX9) (ci := 9) (As := [.int v_2, .int v_4]) (fY_wall l D cI cZ cC cS sq H.size ay ln sn tz bf lt th k0 k1 g g0 g1 tn tb iz fz v_2 v_4 hY_) S gL_law_X9_wall rfl hdV_X9_wall ⟨Nat.le_of_ble_eq_true rfl, Nat.le_of_ble_eq_true rfl⟩ ⟨Nat.le_of_ble_eq_true rfl, Nat.le_of_ble_eq_true rfl⟩ hK hT hS hA hP hD rfl he_ rfl hl.1 rfl (Nat.le_of_ble_eq_true rfl) dL_law_833 (fun r2 wy H locs hw hP hD hS => ?_)
  have hY_ := hw
  refine lv_pop S.1 S.2.1 dL_law_836 rfl ?_
  refine lv_goto (tgt := 1034) S.1 S.2.1 dL_law_837 (by decide) ?_
  exact K ln sn tz bf lt th k0 k1 g g0 g1 tn tb iz fz wx wy H _ ls hX_ hY_ hP hD hS hl
set_option maxHeartbeats 4000000 in
set_option maxRecDepth 100000 in
theorem law_image {p : Program} (l : Launch) {e : Env} {s : State} {m : MethodId} {below : List Frame} {meth : Method} {c : Code} (D : va_G) (cI cZ cC cS : ClassId) (sq : Nat → Nat) {b L : Nat} {sc : Nat → Int32} {A : Nat → Prop} (C : lC p s m meth c b L sc A) (hK : kW D (tyW cI cZ cC cS) sq s) (hT : sT sq A s s.heap) (ad ay : Nat → Nat) (fq fim : Nat → Option Nat) (hL : L ≤ 3072) (i : Int32) (hi : 0 ≤ i.toInt ∧ i.toInt + 6 ≤ L) (K : ∀ (ln sn : Nat → Int32) (tz : Int32) (bf : Nat → Int32) (lt th k0 k1 : Int32) (g g0 g1 : Nat → Int) (tn : Int32) (tb : Nat → Int32) (iz : Nat → Int32) (fz : Int32) (wx wy : va_W) (H : Heap) (locs : List Loc) (ls : Array Slot), IX cI cC cS ad fq fim ln sn tz bf lt th k0 k1 g g0 g1 tn tb iz fz wx → IY cI cZ ay ln sn tz bf lt th k0 k1 g g0 g1 tn tb iz fz wy → va_P D vwCl (wx ++ wy) H → va_D A (wx ++ wy) → va_S A s.heap H locs → lv_has ls 4 [(3, .int i), (2, .ref (ay 0)), (1, .ref (ad 0)), (0, .ref b)] → W p l e room_1 s m #[Value.ref b] below meth c H locs 98 12032 (lw_Z below #[Value.ref b] s) (F0 m 1034 ls [])) {ln sn : Nat → Int32} {tz : Int32} {bf : Nat → Int32} {lt th k0 k1 : Int32} {g g0 g1 : Nat → Int} {tn : Int32} {tb : Nat → Int32} {iz : Nat → Int32} {fz : Int32} {wx wy : va_W} {H : Heap} {locs : List Loc} {ls : Array Slot} (hX_ : IX cI cC cS ad fq fim ln sn tz bf lt th k0 k1 g g0 g1 tn tb iz fz wx) (hY_ : IY cI cZ ay ln sn tz bf lt th k0 k1 g g0 g1 tn tb iz fz wy) (hP : va_P D vwCl (wx ++ wy) H) (hD : va_D A (wx ++ wy)) (hS : va_S A s.heap H locs) (hl : lv_has ls 4 [(3, .int i), (2, .ref (ay 0)), (1, .ref (ad 0)), (0, .ref b)]) : W p l e room_1 s m #[Value.ref b] below meth c H locs 98 12032 (lw_Z below #[Value.ref b] s) (F0 m 840 ls []) := by
  obtain ⟨S, hr_, hk_, hX, hbl, hA, hAf⟩ := id C
  have hbA : ¬ A b := fun z => absurd (hAf b z) (Nat.not_le.mpr hbl)
  refine lv_aload_n S.1 S.2.1 dL_law_840 rfl (lv_at hl 2 rfl) ?_
  refine lv_aload_n S.1 S.2.1 dL_law_841 rfl (lv_at hl 3 rfl) ?_
  refine lv_iload_n S.1 S.2.1 dL_law_842 rfl (lv_at hl 0 rfl) ?_
  refine lv_iconst (v := (1)) S.1 S.2.1 dL_law_843 (by decide) ?_
  refine lv_iadd S.1 S.2.1 dL_law_844 ?_
  refine lv_topi (fun x_1 ex_1 => ?_)
  have tx_1 : x_1.toInt = i.toInt + (1) := addI (A := i.toInt) (B := 1) ex_1 rfl rfl (by omega) (by omega)
  refine va_sld S.1 S.2.1 hX hbl hbA hS (in_of (by omega) (by omega)) dL_law_845 ?_
  refine lv_topi (fun v_2 ev_2 => ?_)
  obtain ⟨fs_, he_⟩ := IX_0 hX_
  refine law_ci (C := RX8) (ci := 8) (As := [.int v_2]) (fX_image l D cI cZ cC cS sq H.size ad fq fim ln sn tz bf lt th k0 k1 g g0 g1 tn tb iz fz v_2 hX_) S gL_law_X8_image rfl hdV_X8_image ⟨Nat.le_of_ble_eq_true rfl, Nat.le_of_ble_eq_true rfl⟩ ⟨Nat.le_of_ble_eq_true rfl, Nat.le_of_ble_eq_true rfl⟩ hK hT hS hA hP hD rfl he_ rfl hl.1 rfl (Nat.le_of_ble_eq_true rfl) dL_law_846 (fun r1 wx H locs hw hP hD hS => ?_)
  obtain ⟨ka1, kb1, ga1, gb1, hr1, hX_⟩ := hw
  refine lv_pop S.1 S.2.1 dL_law_849 rfl ?_
  refine lv_aload_n S.1 S.2.1 dL_law_850 rfl (lv_at hl 1 rfl) ?_
  refine lv_aload_n S.1 S.2.1 dL_law_851 rfl (lv_at hl 3 rfl) ?_
  refine lv_iload_n S.1 S.2.1 dL_law_852 rfl (lv_at hl 0 rfl) ?_
  refine lv_iconst (v := (1)) S.1 S.2.1 dL_law_853 (by decide) ?_
  refine lv_iadd S.1 S.2.1 dL_law_854 ?_
  refine lv_topi (fun x_3 ex_3 => ?_)
  have qx_3 : x_1 = x_3 := ex_1.trans ex_3.symm
  subst qx_3
  refine va_sld S.1 S.2.1 hX hbl hbA hS (in_of (by omega) (by omega)) dL_law_855 ?_
  refine lv_topi (fun v_4 ev_4 => ?_)
  have qv_4 : v_2 = v_4 := ev_2.trans ev_4.symm
  subst qv_4
  obtain ⟨fs_, he_⟩ := IY_0 hY_
  refine law_ci (C := RX9) (ci := 9) (As := [.int v_2]) (fY_image l D cI cZ cC cS sq H.size ay ln sn tz bf lt th k0 k1 g g0 g1 tn tb iz fz v_2 hY_) S gL_law_X9_image rfl hdV_X9_image ⟨Nat.le_of_ble_eq_true rfl, Nat.le_of_ble_eq_true rfl⟩ ⟨Nat.le_of_ble_eq_true rfl, Nat.le_of_ble_eq_true rfl⟩ hK hT hS hA hP hD rfl he_ rfl hl.1 rfl (Nat.le_of_ble_eq_true rfl) dL_law_856 (fun r2 wy H locs hw hP hD hS => ?_)
  obtain ⟨ka2, kb2, ga2, gb2, hr2, hY_⟩ := hw
  obtain ⟨er, et, eu, eg, eh⟩ := stImage_eq hr1 hr2
  subst et
  subst eu
  subst eg
  subst eh
  refine lv_pop S.1 S.2.1 dL_law_859 rfl ?_
  refine lv_goto (tgt := 1034) S.1 S.2.1 dL_law_860 (by decide) ?_
  exact K ln sn tz bf lt th ka1 kb1 g ga1 gb1 tn tb iz fz wx wy H _ ls hX_ hY_ hP hD hS hl
set_option maxHeartbeats 4000000 in
set_option maxRecDepth 100000 in
theorem law_restore {p : Program} (l : Launch) {e : Env} {s : State} {m : MethodId} {below : List Frame} {meth : Method} {c : Code} (D : va_G) (cI cZ cC cS : ClassId) (sq : Nat → Nat) {b L : Nat} {sc : Nat → Int32} {A : Nat → Prop} (C : lC p s m meth c b L sc A) (hK : kW D (tyW cI cZ cC cS) sq s) (hT : sT sq A s s.heap) (ad ay : Nat → Nat) (fq fim : Nat → Option Nat) (hL : L ≤ 3072) (i : Int32) (hi : 0 ≤ i.toInt ∧ i.toInt + 6 ≤ L) (K : ∀ (ln sn : Nat → Int32) (tz : Int32) (bf : Nat → Int32) (lt th k0 k1 : Int32) (g g0 g1 : Nat → Int) (tn : Int32) (tb : Nat → Int32) (iz : Nat → Int32) (fz : Int32) (wx wy : va_W) (H : Heap) (locs : List Loc) (ls : Array Slot), IX cI cC cS ad fq fim ln sn tz bf lt th k0 k1 g g0 g1 tn tb iz fz wx → IY cI cZ ay ln sn tz bf lt th k0 k1 g g0 g1 tn tb iz fz wy → va_P D vwCl (wx ++ wy) H → va_D A (wx ++ wy) → va_S A s.heap H locs → lv_has ls 4 [(3, .int i), (2, .ref (ay 0)), (1, .ref (ad 0)), (0, .ref b)] → W p l e room_1 s m #[Value.ref b] below meth c H locs 98 12032 (lw_Z below #[Value.ref b] s) (F0 m 1034 ls [])) {ln sn : Nat → Int32} {tz : Int32} {bf : Nat → Int32} {lt th k0 k1 : Int32} {g g0 g1 : Nat → Int} {tn : Int32} {tb : Nat → Int32} {iz : Nat → Int32} {fz : Int32} {wx wy : va_W} {H : Heap} {locs : List Loc} {ls : Array Slot} (hX_ : IX cI cC cS ad fq fim ln sn tz bf lt th k0 k1 g g0 g1 tn tb iz fz wx) (hY_ : IY cI cZ ay ln sn tz bf lt th k0 k1 g g0 g1 tn tb iz fz wy) (hP : va_P D vwCl (wx ++ wy) H) (hD : va_D A (wx ++ wy)) (hS : va_S A s.heap H locs) (hl : lv_has ls 4 [(3, .int i), (2, .ref (ay 0)), (1, .ref (ad 0)), (0, .ref b)]) : W p l e room_1 s m #[Value.ref b] below meth c H locs 98 12032 (lw_Z below #[Value.ref b] s) (F0 m 863 ls []) := by
  obtain ⟨S, hr_, hk_, hX, hbl, hA, hAf⟩ := id C
  have hbA : ¬ A b := fun z => absurd (hAf b z) (Nat.not_le.mpr hbl)
  refine lv_aload_n S.1 S.2.1 dL_law_863 rfl (lv_at hl 2 rfl) ?_
  refine lv_aload_n S.1 S.2.1 dL_law_864 rfl (lv_at hl 3 rfl) ?_
  refine lv_iload_n S.1 S.2.1 dL_law_865 rfl (lv_at hl 0 rfl) ?_
  refine lv_iconst (v := (1)) S.1 S.2.1 dL_law_866 (by decide) ?_
  refine lv_iadd S.1 S.2.1 dL_law_867 ?_
  refine lv_topi (fun x_1 ex_1 => ?_)
  have tx_1 : x_1.toInt = i.toInt + (1) := addI (A := i.toInt) (B := 1) ex_1 rfl rfl (by omega) (by omega)
  refine va_sld S.1 S.2.1 hX hbl hbA hS (in_of (by omega) (by omega)) dL_law_868 ?_
  refine lv_topi (fun v_2 ev_2 => ?_)
  obtain ⟨fs_, he_⟩ := IX_0 hX_
  refine law_ci (C := RX8) (ci := 8) (As := [.int v_2]) (fX_restore l D cI cZ cC cS sq H.size ad fq fim ln sn tz bf lt th k0 k1 g g0 g1 tn tb iz fz v_2 (IY_g hY_) (IY_p hY_) hX_) S gL_law_X8_restore rfl hdV_X8_restore ⟨Nat.le_of_ble_eq_true rfl, Nat.le_of_ble_eq_true rfl⟩ ⟨Nat.le_of_ble_eq_true rfl, Nat.le_of_ble_eq_true rfl⟩ hK hT hS hA hP hD rfl he_ rfl hl.1 rfl (Nat.le_of_ble_eq_true rfl) dL_law_869 (fun r1 wx H locs hw hP hD hS => ?_)
  obtain ⟨ga1, hr1, hX_⟩ := hw
  refine lv_pop S.1 S.2.1 dL_law_872 rfl ?_
  refine lv_aload_n S.1 S.2.1 dL_law_873 rfl (lv_at hl 1 rfl) ?_
  refine lv_aload_n S.1 S.2.1 dL_law_874 rfl (lv_at hl 3 rfl) ?_
  refine lv_iload_n S.1 S.2.1 dL_law_875 rfl (lv_at hl 0 rfl) ?_
  refine lv_iconst (v := (1)) S.1 S.2.1 dL_law_876 (by decide) ?_
  refine lv_iadd S.1 S.2.1 dL_law_877 ?_
  refine lv_topi (fun x_3 ex_3 => ?_)
  have qx_3 : x_1 = x_3 := ex_1.trans ex_3.symm
  subst qx_3
  refine va_sld S.1 S.2.1 hX hbl hbA hS (in_of (by omega) (by omega)) dL_law_878 ?_
  refine lv_topi (fun v_4 ev_4 => ?_)
  have qv_4 : v_2 = v_4 := ev_2.trans ev_4.symm
  subst qv_4
  obtain ⟨fs_, he_⟩ := IY_0 hY_
  refine law_ci (C := RX9) (ci := 9) (As := [.int v_2]) (fY_restore l D cI cZ cC cS sq H.size ay ln sn tz bf lt th k0 k1 g g0 g1 tn tb iz fz v_2 hY_) S gL_law_X9_restore rfl hdV_X9_restore ⟨Nat.le_of_ble_eq_true rfl, Nat.le_of_ble_eq_true rfl⟩ ⟨Nat.le_of_ble_eq_true rfl, Nat.le_of_ble_eq_true rfl⟩ hK hT hS hA hP hD rfl he_ rfl hl.1 rfl (Nat.le_of_ble_eq_true rfl) dL_law_879 (fun r2 wy H locs hw hP hD hS => ?_)
  obtain ⟨ga2, hr2, hY_⟩ := hw
  obtain ⟨er, eg⟩ := stRestore_eq hr1 hr2
  subst eg
  refine lv_pop S.1 S.2.1 dL_law_882 rfl ?_
  refine lv_goto (tgt := 1034) S.1 S.2.1 dL_law_883 (by decide) ?_
  exact K ln sn tz bf lt th k0 k1 ga1 g0 g1 tn tb iz fz wx wy H _ ls hX_ hY_ hP hD hS hl
set_option maxHeartbeats 4000000 in
set_option maxRecDepth 100000 in
theorem law_kind {p : Program} (l : Launch) {e : Env} {s : State} {m : MethodId} {below : List Frame} {meth : Method} {c : Code} (D : va_G) (cI cZ cC cS : ClassId) (sq : Nat → Nat) {b L : Nat} {sc : Nat → Int32} {A : Nat → Prop} (C : lC p s m meth c b L sc A) (hK : kW D (tyW cI cZ cC cS) sq s) (hT : sT sq A s s.heap) (ad ay : Nat → Nat) (fq fim : Nat → Option Nat) (hL : L ≤ 3072) (i : Int32) (hi : 0 ≤ i.toInt ∧ i.toInt + 6 ≤ L) (K : ∀ (ln sn : Nat → Int32) (tz : Int32) (bf : Nat → Int32) (lt th k0 k1 : Int32) (g g0 g1 : Nat → Int) (tn : Int32) (tb : Nat → Int32) (iz : Nat → Int32) (fz : Int32) (wx wy : va_W) (H : Heap) (locs : List Loc) (ls : Array Slot), IX cI cC cS ad fq fim ln sn tz bf lt th k0 k1 g g0 g1 tn tb iz fz wx → IY cI cZ ay ln sn tz bf lt th k0 k1 g g0 g1 tn tb iz fz wy → va_P D vwCl (wx ++ wy) H → va_D A (wx ++ wy) → va_S A s.heap H locs → lv_has ls 4 [(3, .int i), (2, .ref (ay 0)), (1, .ref (ad 0)), (0, .ref b)] → W p l e room_1 s m #[Value.ref b] below meth c H locs 98 12032 (lw_Z below #[Value.ref b] s) (F0 m 1034 ls [])) {ln sn : Nat → Int32} {tz : Int32} {bf : Nat → Int32} {lt th k0 k1 : Int32} {g g0 g1 : Nat → Int} {tn : Int32} {tb : Nat → Int32} {iz : Nat → Int32} {fz : Int32} {wx wy : va_W} {H : Heap} {locs : List Loc} {ls : Array Slot} (hX_ : IX cI cC cS ad fq fim ln sn tz bf lt th k0 k1 g g0 g1 tn tb iz fz wx) (hY_ : IY cI cZ ay ln sn tz bf lt th k0 k1 g g0 g1 tn tb iz fz wy) (hP : va_P D vwCl (wx ++ wy) H) (hD : va_D A (wx ++ wy)) (hS : va_S A s.heap H locs) (hl : lv_has ls 4 [(3, .int i), (2, .ref (ay 0)), (1, .ref (ad 0)), (0, .ref b)]) : W p l e room_1 s m #[Value.ref b] below meth c H locs 98 12032 (lw_Z below #[Value.ref b] s) (F0 m 886 ls []) := by
  obtain ⟨S, hr_, hk_, hX, hbl, hA, hAf⟩ := id C
  have hbA : ¬ A b := fun z => absurd (hAf b z) (Nat.not_le.mpr hbl)
  refine lv_aload_n S.1 S.2.1 dL_law_886 rfl (lv_at hl 2 rfl) ?_
  refine lv_aload_n S.1 S.2.1 dL_law_887 rfl (lv_at hl 3 rfl) ?_
  refine lv_iload_n S.1 S.2.1 dL_law_888 rfl (lv_at hl 0 rfl) ?_
  refine lv_iconst (v := (1)) S.1 S.2.1 dL_law_889 (by decide) ?_
  refine lv_iadd S.1 S.2.1 dL_law_890 ?_
  refine lv_topi (fun x_1 ex_1 => ?_)
  have tx_1 : x_1.toInt = i.toInt + (1) := addI (A := i.toInt) (B := 1) ex_1 rfl rfl (by omega) (by omega)
  refine va_sld S.1 S.2.1 hX hbl hbA hS (in_of (by omega) (by omega)) dL_law_891 ?_
  refine lv_topi (fun v_2 ev_2 => ?_)
  obtain ⟨fs_, he_⟩ := IX_0 hX_
  refine law_ci (C := RX8) (ci := 8) (As := [.int v_2]) (fX_kind l D cI cZ cC cS sq H.size ad fq fim ln sn tz bf lt th k0 k1 g g0 g1 tn tb iz fz v_2 (IY_g hY_) (IY_p hY_) hX_) S gL_law_X8_kind rfl hdV_X8_kind ⟨Nat.le_of_ble_eq_true rfl, Nat.le_of_ble_eq_true rfl⟩ ⟨Nat.le_of_ble_eq_true rfl, Nat.le_of_ble_eq_true rfl⟩ hK hT hS hA hP hD rfl he_ rfl hl.1 rfl (Nat.le_of_ble_eq_true rfl) dL_law_892 (fun r1 wx H locs hw hP hD hS => ?_)
  obtain ⟨hr1, hX_⟩ := hw
  refine lv_pop S.1 S.2.1 dL_law_895 rfl ?_
  refine lv_aload_n S.1 S.2.1 dL_law_896 rfl (lv_at hl 1 rfl) ?_
  refine lv_aload_n S.1 S.2.1 dL_law_897 rfl (lv_at hl 3 rfl) ?_
  refine lv_iload_n S.1 S.2.1 dL_law_898 rfl (lv_at hl 0 rfl) ?_
  refine lv_iconst (v := (1)) S.1 S.2.1 dL_law_899 (by decide) ?_
  refine lv_iadd S.1 S.2.1 dL_law_900 ?_
  refine lv_topi (fun x_3 ex_3 => ?_)
  have qx_3 : x_1 = x_3 := ex_1.trans ex_3.symm
  subst qx_3
  refine va_sld S.1 S.2.1 hX hbl hbA hS (in_of (by omega) (by omega)) dL_law_901 ?_
  refine lv_topi (fun v_4 ev_4 => ?_)
  have qv_4 : v_2 = v_4 := ev_2.trans ev_4.symm
  subst qv_4
  obtain ⟨fs_, he_⟩ := IY_0 hY_
  refine law_ci (C := RX9) (ci := 9) (As := [.int v_2]) (fY_kind l D cI cZ cC cS sq H.size ay ln sn tz bf lt th k0 k1 g g0 g1 tn tb iz fz v_2 hY_) S gL_law_X9_kind rfl hdV_X9_kind ⟨Nat.le_of_ble_eq_true rfl, Nat.le_of_ble_eq_true rfl⟩ ⟨Nat.le_of_ble_eq_true rfl, Nat.le_of_ble_eq_true rfl⟩ hK hT hS hA hP hD rfl he_ rfl hl.1 rfl (Nat.le_of_ble_eq_true rfl) dL_law_902 (fun r2 wy H locs hw hP hD hS => ?_)
  obtain ⟨hr2, hY_⟩ := hw
  have er := stKind_eq hr1 hr2
  refine lv_pop S.1 S.2.1 dL_law_905 rfl ?_
  refine lv_goto (tgt := 1034) S.1 S.2.1 dL_law_906 (by decide) ?_
  exact K ln sn tz bf lt th k0 k1 g g0 g1 tn tb iz fz wx wy H _ ls hX_ hY_ hP hD hS hl
set_option maxHeartbeats 4000000 in
set_option maxRecDepth 100000 in
theorem law_as {p : Program} (l : Launch) {e : Env} {s : State} {m : MethodId} {below : List Frame} {meth : Method} {c : Code} (D : va_G) (cI cZ cC cS : ClassId) (sq : Nat → Nat) {b L : Nat} {sc : Nat → Int32} {A : Nat → Prop} (C : lC p s m meth c b L sc A) (hK : kW D (tyW cI cZ cC cS) sq s) (hT : sT sq A s s.heap) (ad ay : Nat → Nat) (fq fim : Nat → Option Nat) (hL : L ≤ 3072) (i : Int32) (hi : 0 ≤ i.toInt ∧ i.toInt + 6 ≤ L) (K : ∀ (ln sn : Nat → Int32) (tz : Int32) (bf : Nat → Int32) (lt th k0 k1 : Int32) (g g0 g1 : Nat → Int) (tn : Int32) (tb : Nat → Int32) (iz : Nat → Int32) (fz : Int32) (wx wy : va_W) (H : Heap) (locs : List Loc) (ls : Array Slot), IX cI cC cS ad fq fim ln sn tz bf lt th k0 k1 g g0 g1 tn tb iz fz wx → IY cI cZ ay ln sn tz bf lt th k0 k1 g g0 g1 tn tb iz fz wy → va_P D vwCl (wx ++ wy) H → va_D A (wx ++ wy) → va_S A s.heap H locs → lv_has ls 4 [(3, .int i), (2, .ref (ay 0)), (1, .ref (ad 0)), (0, .ref b)] → W p l e room_1 s m #[Value.ref b] below meth c H locs 98 12032 (lw_Z below #[Value.ref b] s) (F0 m 1034 ls [])) {ln sn : Nat → Int32} {tz : Int32} {bf : Nat → Int32} {lt th k0 k1 : Int32} {g g0 g1 : Nat → Int} {tn : Int32} {tb : Nat → Int32} {iz : Nat → Int32} {fz : Int32} {wx wy : va_W} {H : Heap} {locs : List Loc} {ls : Array Slot} (hX_ : IX cI cC cS ad fq fim ln sn tz bf lt th k0 k1 g g0 g1 tn tb iz fz wx) (hY_ : IY cI cZ ay ln sn tz bf lt th k0 k1 g g0 g1 tn tb iz fz wy) (hP : va_P D vwCl (wx ++ wy) H) (hD : va_D A (wx ++ wy)) (hS : va_S A s.heap H locs) (hl : lv_has ls 4 [(3, .int i), (2, .ref (ay 0)), (1, .ref (ad 0)), (0, .ref b)]) : W p l e room_1 s m #[Value.ref b] below meth c H locs 98 12032 (lw_Z below #[Value.ref b] s) (F0 m 909 ls []) := by
  obtain ⟨S, hr_, hk_, hX, hbl, hA, hAf⟩ := id C
  have hbA : ¬ A b := fun z => absurd (hAf b z) (Nat.not_le.mpr hbl)
  refine lv_aload_n S.1 S.2.1 dL_law_909 rfl (lv_at hl 2 rfl) ?_
  refine lv_aload_n S.1 S.2.1 dL_law_910 rfl (lv_at hl 3 rfl) ?_
  refine lv_iload_n S.1 S.2.1 dL_law_911 rfl (lv_at hl 0 rfl) ?_
  refine lv_iconst (v := (1)) S.1 S.2.1 dL_law_912 (by decide) ?_
  refine lv_iadd S.1 S.2.1 dL_law_913 ?_
  refine lv_topi (fun x_1 ex_1 => ?_)
  have tx_1 : x_1.toInt = i.toInt + (1) := addI (A := i.toInt) (B := 1) ex_1 rfl rfl (by omega) (by omega)
  refine va_sld S.1 S.2.1 hX hbl hbA hS (in_of (by omega) (by omega)) dL_law_914 ?_
  refine lv_topi (fun v_2 ev_2 => ?_)
  refine lv_aload_n S.1 S.2.1 dL_law_915 rfl (lv_at hl 3 rfl) ?_
  refine lv_iload_n S.1 S.2.1 dL_law_916 rfl (lv_at hl 0 rfl) ?_
  refine lv_iconst (v := (2)) S.1 S.2.1 dL_law_917 (by decide) ?_
  refine lv_iadd S.1 S.2.1 dL_law_918 ?_
  refine lv_topi (fun x_3 ex_3 => ?_)
  have tx_3 : x_3.toInt = i.toInt + (2) := addI (A := i.toInt) (B := 2) ex_3 rfl rfl (by omega) (by omega)
  refine va_sld S.1 S.2.1 hX hbl hbA hS (in_of (by omega) (by omega)) dL_law_919 ?_
  refine lv_topi (fun v_4 ev_4 => ?_)
  obtain ⟨fs_, he_⟩ := IX_0 hX_
  refine law_ci (C := RX8) (ci := 8) (As := [.int v_2, .int v_4]) (fX_as l D cI cZ cC cS sq H.size ad fq fim ln sn tz bf lt th k0 k1 g g0 g1 tn tb iz fz v_2 v_4 (IY_g hY_) (IY_p hY_) hX_) S gL_law_X8_as rfl hdV_X8_as ⟨Nat.le_of_ble_eq_true rfl, Nat.le_of_ble_eq_true rfl⟩ ⟨Nat.le_of_ble_eq_true rfl, Nat.le_of_ble_eq_true rfl⟩ hK hT hS hA hP hD rfl he_ rfl hl.1 rfl (Nat.le_of_ble_eq_true rfl) dL_law_920 (fun r1 wx H locs hw hP hD hS => ?_)
  obtain ⟨fz1, ⟨hr1, hzr1⟩, hX_⟩ := hw
  refine lv_pop S.1 S.2.1 dL_law_923 rfl ?_
  refine lv_aload_n S.1 S.2.1 dL_law_924 rfl (lv_at hl 1 rfl) ?_
  refine lv_aload_n S.1 S.2.1 dL_law_925 rfl (lv_at hl 3 rfl) ?_
  refine lv_iload_n S.1 S.2.1 dL_law_926 rfl (lv_at hl 0 rfl) ?_
  refine lv_iconst (v := (1)) S.1 S.2.1 dL_law_927 (by decide) ?_
  refine lv_iadd S.1 S.2.1 dL_law_928 ?_
  refine lv_topi (fun x_5 ex_5 => ?_)
  have qx_5 : x_1 = x_5 := ex_1.trans ex_5.symm
  subst qx_5
  refine va_sld S.1 S.2.1 hX hbl hbA hS (in_of (by omega) (by omega)) dL_law_929 ?_
  refine lv_topi (fun v_6 ev_6 => ?_)
  have qv_6 : v_2 = v_6 := ev_2.trans ev_6.symm
  subst qv_6
  refine lv_aload_n S.1 S.2.1 dL_law_930 rfl (lv_at hl 3 rfl) ?_
  refine lv_iload_n S.1 S.2.1 dL_law_931 rfl (lv_at hl 0 rfl) ?_
  refine lv_iconst (v := (2)) S.1 S.2.1 dL_law_932 (by decide) ?_
  refine lv_iadd S.1 S.2.1 dL_law_933 ?_
  refine lv_topi (fun x_7 ex_7 => ?_)
  have qx_7 : x_3 = x_7 := ex_3.trans ex_7.symm
  subst qx_7
  refine va_sld S.1 S.2.1 hX hbl hbA hS (in_of (by omega) (by omega)) dL_law_934 ?_
  refine lv_topi (fun v_8 ev_8 => ?_)
  have qv_8 : v_4 = v_8 := ev_4.trans ev_8.symm
  subst qv_8
  obtain ⟨fs_, he_⟩ := IY_0 hY_
  refine law_ci (C := RX9) (ci := 9) (As := [.int v_2, .int v_4]) (fY_as l D cI cZ cC cS sq H.size ay ln sn tz bf lt th k0 k1 g g0 g1 tn tb iz fz v_2 v_4 hY_) S gL_law_X9_as rfl hdV_X9_as ⟨Nat.le_of_ble_eq_true rfl, Nat.le_of_ble_eq_true rfl⟩ ⟨Nat.le_of_ble_eq_true rfl, Nat.le_of_ble_eq_true rfl⟩ hK hT hS hA hP hD rfl he_ rfl hl.1 rfl (Nat.le_of_ble_eq_true rfl) dL_law_935 (fun r2 wy H locs hw hP hD hS => ?_)
  obtain ⟨fz2, ⟨hr2, hzr2⟩, hY_⟩ := hw
  have er := stAs_eq hr1 hr2
  have ef : fz1 = fz2 := by rw [hzr1, hzr2, er]
  subst ef
  refine lv_pop S.1 S.2.1 dL_law_938 rfl ?_
  refine lv_goto (tgt := 1034) S.1 S.2.1 dL_law_939 (by decide) ?_
  exact K ln sn tz bf lt th k0 k1 g g0 g1 tn tb iz fz1 wx wy H _ ls hX_ hY_ hP hD hS hl
set_option maxHeartbeats 4000000 in
set_option maxRecDepth 100000 in
theorem law_ask {p : Program} (l : Launch) {e : Env} {s : State} {m : MethodId} {below : List Frame} {meth : Method} {c : Code} (D : va_G) (cI cZ cC cS : ClassId) (sq : Nat → Nat) {b L : Nat} {sc : Nat → Int32} {A : Nat → Prop} (C : lC p s m meth c b L sc A) (hK : kW D (tyW cI cZ cC cS) sq s) (hT : sT sq A s s.heap) (ad ay : Nat → Nat) (fq fim : Nat → Option Nat) (hL : L ≤ 3072) (i : Int32) (hi : 0 ≤ i.toInt ∧ i.toInt + 6 ≤ L) (K : ∀ (ln sn : Nat → Int32) (tz : Int32) (bf : Nat → Int32) (lt th k0 k1 : Int32) (g g0 g1 : Nat → Int) (tn : Int32) (tb : Nat → Int32) (iz : Nat → Int32) (fz : Int32) (wx wy : va_W) (H : Heap) (locs : List Loc) (ls : Array Slot), IX cI cC cS ad fq fim ln sn tz bf lt th k0 k1 g g0 g1 tn tb iz fz wx → IY cI cZ ay ln sn tz bf lt th k0 k1 g g0 g1 tn tb iz fz wy → va_P D vwCl (wx ++ wy) H → va_D A (wx ++ wy) → va_S A s.heap H locs → lv_has ls 4 [(3, .int i), (2, .ref (ay 0)), (1, .ref (ad 0)), (0, .ref b)] → W p l e room_1 s m #[Value.ref b] below meth c H locs 98 12032 (lw_Z below #[Value.ref b] s) (F0 m 1034 ls [])) {ln sn : Nat → Int32} {tz : Int32} {bf : Nat → Int32} {lt th k0 k1 : Int32} {g g0 g1 : Nat → Int} {tn : Int32} {tb : Nat → Int32} {iz : Nat → Int32} {fz : Int32} {wx wy : va_W} {H : Heap} {locs : List Loc} {ls : Array Slot} (hX_ : IX cI cC cS ad fq fim ln sn tz bf lt th k0 k1 g g0 g1 tn tb iz fz wx) (hY_ : IY cI cZ ay ln sn tz bf lt th k0 k1 g g0 g1 tn tb iz fz wy) (hP : va_P D vwCl (wx ++ wy) H) (hD : va_D A (wx ++ wy)) (hS : va_S A s.heap H locs) (hl : lv_has ls 4 [(3, .int i), (2, .ref (ay 0)), (1, .ref (ad 0)), (0, .ref b)]) : W p l e room_1 s m #[Value.ref b] below meth c H locs 98 12032 (lw_Z below #[Value.ref b] s) (F0 m 942 ls []) := by
  obtain ⟨S, hr_, hk_, hX, hbl, hA, hAf⟩ := id C
  have hbA : ¬ A b := fun z => absurd (hAf b z) (Nat.not_le.mpr hbl)
  refine lv_aload_n S.1 S.2.1 dL_law_942 rfl (lv_at hl 2 rfl) ?_
  refine lv_aload_n S.1 S.2.1 dL_law_943 rfl (lv_at hl 3 rfl) ?_
  refine lv_iload_n S.1 S.2.1 dL_law_944 rfl (lv_at hl 0 rfl) ?_
  refine lv_iconst (v := (1)) S.1 S.2.1 dL_law_945 (by decide) ?_
  refine lv_iadd S.1 S.2.1 dL_law_946 ?_
  refine lv_topi (fun x_1 ex_1 => ?_)
  have tx_1 : x_1.toInt = i.toInt + (1) := addI (A := i.toInt) (B := 1) ex_1 rfl rfl (by omega) (by omega)
  refine va_sld S.1 S.2.1 hX hbl hbA hS (in_of (by omega) (by omega)) dL_law_947 ?_
  refine lv_topi (fun v_2 ev_2 => ?_)
  refine lv_aload_n S.1 S.2.1 dL_law_948 rfl (lv_at hl 3 rfl) ?_
  refine lv_iload_n S.1 S.2.1 dL_law_949 rfl (lv_at hl 0 rfl) ?_
  refine lv_iconst (v := (2)) S.1 S.2.1 dL_law_950 (by decide) ?_
  refine lv_iadd S.1 S.2.1 dL_law_951 ?_
  refine lv_topi (fun x_3 ex_3 => ?_)
  have tx_3 : x_3.toInt = i.toInt + (2) := addI (A := i.toInt) (B := 2) ex_3 rfl rfl (by omega) (by omega)
  refine va_sld S.1 S.2.1 hX hbl hbA hS (in_of (by omega) (by omega)) dL_law_952 ?_
  refine lv_topi (fun v_4 ev_4 => ?_)
  obtain ⟨fs_, he_⟩ := IX_0 hX_
  refine law_ci (C := RX8) (ci := 8) (As := [.int v_2, .int v_4]) (fX_ask l D cI cZ cC cS sq H.size ad fq fim ln sn tz bf lt th k0 k1 g g0 g1 tn tb iz fz v_2 v_4 (IY_g hY_) (IY_p hY_) hX_) S gL_law_X8_ask rfl hdV_X8_ask ⟨Nat.le_of_ble_eq_true rfl, Nat.le_of_ble_eq_true rfl⟩ ⟨Nat.le_of_ble_eq_true rfl, Nat.le_of_ble_eq_true rfl⟩ hK hT hS hA hP hD rfl he_ rfl hl.1 rfl (Nat.le_of_ble_eq_true rfl) dL_law_953 (fun r1 wx H locs hw hP hD hS => ?_)
  obtain ⟨tn1, tb1, hr1, hX_⟩ := hw
  refine lv_aload_n S.1 S.2.1 dL_law_956 rfl (lv_at hl 1 rfl) ?_
  refine lv_aload_n S.1 S.2.1 dL_law_957 rfl (lv_at hl 3 rfl) ?_
  refine lv_iload_n S.1 S.2.1 dL_law_958 rfl (lv_at hl 0 rfl) ?_
  refine lv_iconst (v := (1)) S.1 S.2.1 dL_law_959 (by decide) ?_
  refine lv_iadd S.1 S.2.1 dL_law_960 ?_
  refine lv_topi (fun x_5 ex_5 => ?_)
  have qx_5 : x_1 = x_5 := ex_1.trans ex_5.symm
  subst qx_5
  refine va_sld S.1 S.2.1 hX hbl hbA hS (in_of (by omega) (by omega)) dL_law_961 ?_
  refine lv_topi (fun v_6 ev_6 => ?_)
  have qv_6 : v_2 = v_6 := ev_2.trans ev_6.symm
  subst qv_6
  refine lv_aload_n S.1 S.2.1 dL_law_962 rfl (lv_at hl 3 rfl) ?_
  refine lv_iload_n S.1 S.2.1 dL_law_963 rfl (lv_at hl 0 rfl) ?_
  refine lv_iconst (v := (2)) S.1 S.2.1 dL_law_964 (by decide) ?_
  refine lv_iadd S.1 S.2.1 dL_law_965 ?_
  refine lv_topi (fun x_7 ex_7 => ?_)
  have qx_7 : x_3 = x_7 := ex_3.trans ex_7.symm
  subst qx_7
  refine va_sld S.1 S.2.1 hX hbl hbA hS (in_of (by omega) (by omega)) dL_law_966 ?_
  refine lv_topi (fun v_8 ev_8 => ?_)
  have qv_8 : v_4 = v_8 := ev_4.trans ev_8.symm
  subst qv_8
  obtain ⟨fs_, he_⟩ := IY_0 hY_
  refine law_ci (C := RX9) (ci := 9) (As := [.int v_2, .int v_4]) (fY_ask l D cI cZ cC cS sq H.size ay ln sn tz bf lt th k0 k1 g g0 g1 tn tb iz fz v_2 v_4 hY_) S gL_law_X9_ask rfl hdV_X9_ask ⟨Nat.le_of_ble_eq_true rfl, Nat.le_of_ble_eq_true rfl⟩ ⟨Nat.le_of_ble_eq_true rfl, Nat.le_of_ble_eq_true rfl⟩ hK hT hS hA hP hD rfl he_ rfl hl.1 rfl (Nat.le_of_ble_eq_true rfl) dL_law_967 (fun r2 wy H locs hw hP hD hS => ?_)
  obtain ⟨tn2, tb2, hr2, hY_⟩ := hw
  obtain ⟨er, eg⟩ := stAsk_eq (IY_g hY_) hr1 hr2
  obtain ⟨et, eu⟩ := Prod.mk.inj eg
  subst et
  subst eu
  subst er
  refine lv_icmp_eq (tgt := 1034) S.1 S.2.1 dL_law_970 (by decide) (fun _ => ?_) (fun k => absurd rfl k)
  exact K ln sn tz bf lt th k0 k1 g g0 g1 tn1 tb1 iz fz wx wy H _ ls hX_ hY_ hP hD hS hl
set_option maxHeartbeats 4000000 in
set_option maxRecDepth 100000 in
theorem law_trace {p : Program} (l : Launch) {e : Env} {s : State} {m : MethodId} {below : List Frame} {meth : Method} {c : Code} (D : va_G) (cI cZ cC cS : ClassId) (sq : Nat → Nat) {b L : Nat} {sc : Nat → Int32} {A : Nat → Prop} (C : lC p s m meth c b L sc A) (hK : kW D (tyW cI cZ cC cS) sq s) (hT : sT sq A s s.heap) (ad ay : Nat → Nat) (fq fim : Nat → Option Nat) (hL : L ≤ 3072) (i : Int32) (hi : 0 ≤ i.toInt ∧ i.toInt + 6 ≤ L) (K : ∀ (ln sn : Nat → Int32) (tz : Int32) (bf : Nat → Int32) (lt th k0 k1 : Int32) (g g0 g1 : Nat → Int) (tn : Int32) (tb : Nat → Int32) (iz : Nat → Int32) (fz : Int32) (wx wy : va_W) (H : Heap) (locs : List Loc) (ls : Array Slot), IX cI cC cS ad fq fim ln sn tz bf lt th k0 k1 g g0 g1 tn tb iz fz wx → IY cI cZ ay ln sn tz bf lt th k0 k1 g g0 g1 tn tb iz fz wy → va_P D vwCl (wx ++ wy) H → va_D A (wx ++ wy) → va_S A s.heap H locs → lv_has ls 4 [(3, .int i), (2, .ref (ay 0)), (1, .ref (ad 0)), (0, .ref b)] → W p l e room_1 s m #[Value.ref b] below meth c H locs 98 12032 (lw_Z below #[Value.ref b] s) (F0 m 1034 ls [])) {ln sn : Nat → Int32} {tz : Int32} {bf : Nat → Int32} {lt th k0 k1 : Int32} {g g0 g1 : Nat → Int} {tn : Int32} {tb : Nat → Int32} {iz : Nat → Int32} {fz : Int32} {wx wy : va_W} {H : Heap} {locs : List Loc} {ls : Array Slot} (hX_ : IX cI cC cS ad fq fim ln sn tz bf lt th k0 k1 g g0 g1 tn tb iz fz wx) (hY_ : IY cI cZ ay ln sn tz bf lt th k0 k1 g g0 g1 tn tb iz fz wy) (hP : va_P D vwCl (wx ++ wy) H) (hD : va_D A (wx ++ wy)) (hS : va_S A s.heap H locs) (hl : lv_has ls 4 [(3, .int i), (2, .ref (ay 0)), (1, .ref (ad 0)), (0, .ref b)]) : W p l e room_1 s m #[Value.ref b] below meth c H locs 98 12032 (lw_Z below #[Value.ref b] s) (F0 m 975 ls []) := by
  obtain ⟨S, hr_, hk_, hX, hbl, hA, hAf⟩ := id C
  have hbA : ¬ A b := fun z => absurd (hAf b z) (Nat.not_le.mpr hbl)
  refine lv_aload_n S.1 S.2.1 dL_law_975 rfl (lv_at hl 2 rfl) ?_
  refine lv_aload_n S.1 S.2.1 dL_law_976 rfl (lv_at hl 3 rfl) ?_
  refine lv_iload_n S.1 S.2.1 dL_law_977 rfl (lv_at hl 0 rfl) ?_
  refine lv_iconst (v := (1)) S.1 S.2.1 dL_law_978 (by decide) ?_
  refine lv_iadd S.1 S.2.1 dL_law_979 ?_
  refine lv_topi (fun x_1 ex_1 => ?_)
  have tx_1 : x_1.toInt = i.toInt + (1) := addI (A := i.toInt) (B := 1) ex_1 rfl rfl (by omega) (by omega)
  refine va_sld S.1 S.2.1 hX hbl hbA hS (in_of (by omega) (by omega)) dL_law_980 ?_
  refine lv_topi (fun v_2 ev_2 => ?_)
  obtain ⟨fs_, he_⟩ := IX_0 hX_
  refine law_ci (C := RX8) (ci := 8) (As := [.int v_2]) (fX_trace l D cI cZ cC cS sq H.size ad fq fim ln sn tz bf lt th k0 k1 g g0 g1 tn tb iz fz v_2 hX_) S gL_law_X8_trace rfl hdV_X8_trace ⟨Nat.le_of_ble_eq_true rfl, Nat.le_of_ble_eq_true rfl⟩ ⟨Nat.le_of_ble_eq_true rfl, Nat.le_of_ble_eq_true rfl⟩ hK hT hS hA hP hD rfl he_ rfl hl.1 rfl (Nat.le_of_ble_eq_true rfl) dL_law_981 (fun r1 wx H locs hw hP hD hS => ?_)
  obtain ⟨hr1, hX_⟩ := hw
  refine lv_pop S.1 S.2.1 dL_law_984 rfl ?_
  refine lv_aload_n S.1 S.2.1 dL_law_985 rfl (lv_at hl 1 rfl) ?_
  refine lv_aload_n S.1 S.2.1 dL_law_986 rfl (lv_at hl 3 rfl) ?_
  refine lv_iload_n S.1 S.2.1 dL_law_987 rfl (lv_at hl 0 rfl) ?_
  refine lv_iconst (v := (1)) S.1 S.2.1 dL_law_988 (by decide) ?_
  refine lv_iadd S.1 S.2.1 dL_law_989 ?_
  refine lv_topi (fun x_3 ex_3 => ?_)
  have qx_3 : x_1 = x_3 := ex_1.trans ex_3.symm
  subst qx_3
  refine va_sld S.1 S.2.1 hX hbl hbA hS (in_of (by omega) (by omega)) dL_law_990 ?_
  refine lv_topi (fun v_4 ev_4 => ?_)
  have qv_4 : v_2 = v_4 := ev_2.trans ev_4.symm
  subst qv_4
  obtain ⟨fs_, he_⟩ := IY_0 hY_
  refine law_ci (C := RX9) (ci := 9) (As := [.int v_2]) (fY_trace l D cI cZ cC cS sq H.size ay ln sn tz bf lt th k0 k1 g g0 g1 tn tb iz fz v_2 hY_) S gL_law_X9_trace rfl hdV_X9_trace ⟨Nat.le_of_ble_eq_true rfl, Nat.le_of_ble_eq_true rfl⟩ ⟨Nat.le_of_ble_eq_true rfl, Nat.le_of_ble_eq_true rfl⟩ hK hT hS hA hP hD rfl he_ rfl hl.1 rfl (Nat.le_of_ble_eq_true rfl) dL_law_991 (fun r2 wy H locs hw hP hD hS => ?_)
  obtain ⟨hr2, hY_⟩ := hw
  have er := stTrace_eq hr1 hr2
  refine lv_pop S.1 S.2.1 dL_law_994 rfl ?_
  refine lv_goto (tgt := 1034) S.1 S.2.1 dL_law_995 (by decide) ?_
  exact K ln sn tz bf lt th k0 k1 g g0 g1 tn tb iz fz wx wy H _ ls hX_ hY_ hP hD hS hl
set_option maxHeartbeats 4000000 in
set_option maxRecDepth 100000 in
theorem law_count {p : Program} (l : Launch) {e : Env} {s : State} {m : MethodId} {below : List Frame} {meth : Method} {c : Code} (D : va_G) (cI cZ cC cS : ClassId) (sq : Nat → Nat) {b L : Nat} {sc : Nat → Int32} {A : Nat → Prop} (C : lC p s m meth c b L sc A) (hK : kW D (tyW cI cZ cC cS) sq s) (hT : sT sq A s s.heap) (ad ay : Nat → Nat) (fq fim : Nat → Option Nat) (hL : L ≤ 3072) (i : Int32) (hi : 0 ≤ i.toInt ∧ i.toInt + 6 ≤ L) (K : ∀ (ln sn : Nat → Int32) (tz : Int32) (bf : Nat → Int32) (lt th k0 k1 : Int32) (g g0 g1 : Nat → Int) (tn : Int32) (tb : Nat → Int32) (iz : Nat → Int32) (fz : Int32) (wx wy : va_W) (H : Heap) (locs : List Loc) (ls : Array Slot), IX cI cC cS ad fq fim ln sn tz bf lt th k0 k1 g g0 g1 tn tb iz fz wx → IY cI cZ ay ln sn tz bf lt th k0 k1 g g0 g1 tn tb iz fz wy → va_P D vwCl (wx ++ wy) H → va_D A (wx ++ wy) → va_S A s.heap H locs → lv_has ls 4 [(3, .int i), (2, .ref (ay 0)), (1, .ref (ad 0)), (0, .ref b)] → W p l e room_1 s m #[Value.ref b] below meth c H locs 98 12032 (lw_Z below #[Value.ref b] s) (F0 m 1034 ls [])) {ln sn : Nat → Int32} {tz : Int32} {bf : Nat → Int32} {lt th k0 k1 : Int32} {g g0 g1 : Nat → Int} {tn : Int32} {tb : Nat → Int32} {iz : Nat → Int32} {fz : Int32} {wx wy : va_W} {H : Heap} {locs : List Loc} {ls : Array Slot} (hX_ : IX cI cC cS ad fq fim ln sn tz bf lt th k0 k1 g g0 g1 tn tb iz fz wx) (hY_ : IY cI cZ ay ln sn tz bf lt th k0 k1 g g0 g1 tn tb iz fz wy) (hP : va_P D vwCl (wx ++ wy) H) (hD : va_D A (wx ++ wy)) (hS : va_S A s.heap H locs) (hl : lv_has ls 4 [(3, .int i), (2, .ref (ay 0)), (1, .ref (ad 0)), (0, .ref b)]) : W p l e room_1 s m #[Value.ref b] below meth c H locs 98 12032 (lw_Z below #[Value.ref b] s) (F0 m 998 ls []) := by
  obtain ⟨S, hr_, hk_, hX, hbl, hA, hAf⟩ := id C
  have hbA : ¬ A b := fun z => absurd (hAf b z) (Nat.not_le.mpr hbl)
  refine lv_aload_n S.1 S.2.1 dL_law_998 rfl (lv_at hl 2 rfl) ?_
  refine lv_aload_n S.1 S.2.1 dL_law_999 rfl (lv_at hl 3 rfl) ?_
  refine lv_iload_n S.1 S.2.1 dL_law_1000 rfl (lv_at hl 0 rfl) ?_
  refine lv_iconst (v := (1)) S.1 S.2.1 dL_law_1001 (by decide) ?_
  refine lv_iadd S.1 S.2.1 dL_law_1002 ?_
  refine lv_topi (fun x_1 ex_1 => ?_)
  have tx_1 : x_1.toInt = i.toInt + (1) := addI (A := i.toInt) (B := 1) ex_1 rfl rfl (by omega) (by omega)
  refine va_sld S.1 S.2.1 hX hbl hbA hS (in_of (by omega) (by omega)) dL_law_1003 ?_
  refine lv_topi (fun v_2 ev_2 => ?_)
  obtain ⟨fs_, he_⟩ := IX_0 hX_
  refine law_ci (C := RX8) (ci := 8) (As := [.int v_2]) (fX_count l D cI cZ cC cS sq H.size ad fq fim ln sn tz bf lt th k0 k1 g g0 g1 tn tb iz fz v_2 hX_) S gL_law_X8_count rfl hdV_X8_count ⟨Nat.le_of_ble_eq_true rfl, Nat.le_of_ble_eq_true rfl⟩ ⟨Nat.le_of_ble_eq_true rfl, Nat.le_of_ble_eq_true rfl⟩ hK hT hS hA hP hD rfl he_ rfl hl.1 rfl (Nat.le_of_ble_eq_true rfl) dL_law_1004 (fun r1 wx H locs hw hP hD hS => ?_)
  obtain ⟨hr1, hX_⟩ := hw
  refine lv_pop S.1 S.2.1 dL_law_1007 rfl ?_
  refine lv_aload_n S.1 S.2.1 dL_law_1008 rfl (lv_at hl 1 rfl) ?_
  refine lv_aload_n S.1 S.2.1 dL_law_1009 rfl (lv_at hl 3 rfl) ?_
  refine lv_iload_n S.1 S.2.1 dL_law_1010 rfl (lv_at hl 0 rfl) ?_
  refine lv_iconst (v := (1)) S.1 S.2.1 dL_law_1011 (by decide) ?_
  refine lv_iadd S.1 S.2.1 dL_law_1012 ?_
  refine lv_topi (fun x_3 ex_3 => ?_)
  have qx_3 : x_1 = x_3 := ex_1.trans ex_3.symm
  subst qx_3
  refine va_sld S.1 S.2.1 hX hbl hbA hS (in_of (by omega) (by omega)) dL_law_1013 ?_
  refine lv_topi (fun v_4 ev_4 => ?_)
  have qv_4 : v_2 = v_4 := ev_2.trans ev_4.symm
  subst qv_4
  obtain ⟨fs_, he_⟩ := IY_0 hY_
  refine law_ci (C := RX9) (ci := 9) (As := [.int v_2]) (fY_count l D cI cZ cC cS sq H.size ay ln sn tz bf lt th k0 k1 g g0 g1 tn tb iz fz v_2 hY_) S gL_law_X9_count rfl hdV_X9_count ⟨Nat.le_of_ble_eq_true rfl, Nat.le_of_ble_eq_true rfl⟩ ⟨Nat.le_of_ble_eq_true rfl, Nat.le_of_ble_eq_true rfl⟩ hK hT hS hA hP hD rfl he_ rfl hl.1 rfl (Nat.le_of_ble_eq_true rfl) dL_law_1014 (fun r2 wy H locs hw hP hD hS => ?_)
  obtain ⟨hr2, hY_⟩ := hw
  have er := stCount_eq hr1 hr2
  refine lv_pop S.1 S.2.1 dL_law_1017 rfl ?_
  refine lv_goto (tgt := 1034) S.1 S.2.1 dL_law_1018 (by decide) ?_
  exact K ln sn tz bf lt th k0 k1 g g0 g1 tn tb iz fz wx wy H _ ls hX_ hY_ hP hD hS hl
set_option maxHeartbeats 4000000 in
set_option maxRecDepth 100000 in
theorem law_status {p : Program} (l : Launch) {e : Env} {s : State} {m : MethodId} {below : List Frame} {meth : Method} {c : Code} (D : va_G) (cI cZ cC cS : ClassId) (sq : Nat → Nat) {b L : Nat} {sc : Nat → Int32} {A : Nat → Prop} (C : lC p s m meth c b L sc A) (hK : kW D (tyW cI cZ cC cS) sq s) (hT : sT sq A s s.heap) (ad ay : Nat → Nat) (fq fim : Nat → Option Nat) (hL : L ≤ 3072) (i : Int32) (hi : 0 ≤ i.toInt ∧ i.toInt + 6 ≤ L) (K : ∀ (ln sn : Nat → Int32) (tz : Int32) (bf : Nat → Int32) (lt th k0 k1 : Int32) (g g0 g1 : Nat → Int) (tn : Int32) (tb : Nat → Int32) (iz : Nat → Int32) (fz : Int32) (wx wy : va_W) (H : Heap) (locs : List Loc) (ls : Array Slot), IX cI cC cS ad fq fim ln sn tz bf lt th k0 k1 g g0 g1 tn tb iz fz wx → IY cI cZ ay ln sn tz bf lt th k0 k1 g g0 g1 tn tb iz fz wy → va_P D vwCl (wx ++ wy) H → va_D A (wx ++ wy) → va_S A s.heap H locs → lv_has ls 4 [(3, .int i), (2, .ref (ay 0)), (1, .ref (ad 0)), (0, .ref b)] → W p l e room_1 s m #[Value.ref b] below meth c H locs 98 12032 (lw_Z below #[Value.ref b] s) (F0 m 1034 ls [])) {ln sn : Nat → Int32} {tz : Int32} {bf : Nat → Int32} {lt th k0 k1 : Int32} {g g0 g1 : Nat → Int} {tn : Int32} {tb : Nat → Int32} {iz : Nat → Int32} {fz : Int32} {wx wy : va_W} {H : Heap} {locs : List Loc} {ls : Array Slot} (hX_ : IX cI cC cS ad fq fim ln sn tz bf lt th k0 k1 g g0 g1 tn tb iz fz wx) (hY_ : IY cI cZ ay ln sn tz bf lt th k0 k1 g g0 g1 tn tb iz fz wy) (hP : va_P D vwCl (wx ++ wy) H) (hD : va_D A (wx ++ wy)) (hS : va_S A s.heap H locs) (hl : lv_has ls 4 [(3, .int i), (2, .ref (ay 0)), (1, .ref (ad 0)), (0, .ref b)]) : W p l e room_1 s m #[Value.ref b] below meth c H locs 98 12032 (lw_Z below #[Value.ref b] s) (F0 m 1021 ls []) := by
  obtain ⟨S, hr_, hk_, hX, hbl, hA, hAf⟩ := id C
  have hbA : ¬ A b := fun z => absurd (hAf b z) (Nat.not_le.mpr hbl)
  refine lv_aload_n S.1 S.2.1 dL_law_1021 rfl (lv_at hl 2 rfl) ?_
  obtain ⟨fs_, he_⟩ := IX_0 hX_
  refine law_ci (C := RX8) (ci := 8) (As := []) (fX_status l D cI cZ cC cS sq H.size ad fq fim ln sn tz bf lt th k0 k1 g g0 g1 tn tb iz fz  hX_) S gL_law_X8_status rfl hdV_X8_status ⟨Nat.le_of_ble_eq_true rfl, Nat.le_of_ble_eq_true rfl⟩ ⟨Nat.le_of_ble_eq_true rfl, Nat.le_of_ble_eq_true rfl⟩ hK hT hS hA hP hD rfl he_ rfl hl.1 rfl (Nat.le_of_ble_eq_true rfl) dL_law_1022 (fun r1 wx H locs hw hP hD hS => ?_)
  obtain ⟨hr1, hX_⟩ := hw
  refine lv_pop S.1 S.2.1 dL_law_1025 rfl ?_
  refine lv_aload_n S.1 S.2.1 dL_law_1026 rfl (lv_at hl 1 rfl) ?_
  obtain ⟨fs_, he_⟩ := IY_0 hY_
  refine law_ci (C := RX9) (ci := 9) (As := []) (fY_status l D cI cZ cC cS sq H.size ay ln sn tz bf lt th k0 k1 g g0 g1 tn tb iz fz  hY_) S gL_law_X9_status rfl hdV_X9_status ⟨Nat.le_of_ble_eq_true rfl, Nat.le_of_ble_eq_true rfl⟩ ⟨Nat.le_of_ble_eq_true rfl, Nat.le_of_ble_eq_true rfl⟩ hK hT hS hA hP hD rfl he_ rfl hl.1 rfl (Nat.le_of_ble_eq_true rfl) dL_law_1027 (fun r2 wy H locs hw hP hD hS => ?_)
  obtain ⟨hr2, hY_⟩ := hw
  have er := hr1.trans hr2.symm
  refine lv_pop S.1 S.2.1 dL_law_1030 rfl ?_
  refine lv_goto (tgt := 1034) S.1 S.2.1 dL_law_1031 (by decide) ?_
  exact K ln sn tz bf lt th k0 k1 g g0 g1 tn tb iz fz wx wy H _ ls hX_ hY_ hP hD hS hl
