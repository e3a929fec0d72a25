theorem hdV_X8_city : yX8_city.cls = RX8 ∧ yX8_city.cls ≠ "java/lang/invoke/MethodHandle" ∧ yX8_city.cls ≠ "java/lang/invoke/VarHandle" ∧ (parseMethodDescriptor yX8_city.desc).map (fun d => d.parameters.length) = some 0 := by decide +kernel
theorem hdV_X8_copy : yX8_copy.cls = RX8 ∧ yX8_copy.cls ≠ "java/lang/invoke/MethodHandle" ∧ yX8_copy.cls ≠ "java/lang/invoke/VarHandle" ∧ (parseMethodDescriptor yX8_copy.desc).map (fun d => d.parameters.length) = some 5 := by decide +kernel
theorem hdV_X8_drop : yX8_drop.cls = RX8 ∧ yX8_drop.cls ≠ "java/lang/invoke/MethodHandle" ∧ yX8_drop.cls ≠ "java/lang/invoke/VarHandle" ∧ (parseMethodDescriptor yX8_drop.desc).map (fun d => d.parameters.length) = some 1 := by decide +kernel
theorem hdV_X8_fault : yX8_fault.cls = RX8 ∧ yX8_fault.cls ≠ "java/lang/invoke/MethodHandle" ∧ yX8_fault.cls ≠ "java/lang/invoke/VarHandle" ∧ (parseMethodDescriptor yX8_fault.desc).map (fun d => d.parameters.length) = some 0 := by decide +kernel
theorem hdV_X8_feed : yX8_feed.cls = RX8 ∧ yX8_feed.cls ≠ "java/lang/invoke/MethodHandle" ∧ yX8_feed.cls ≠ "java/lang/invoke/VarHandle" ∧ (parseMethodDescriptor yX8_feed.desc).map (fun d => d.parameters.length) = some 2 := by decide +kernel
theorem hdV_X8_got : yX8_got.cls = RX8 ∧ yX8_got.cls ≠ "java/lang/invoke/MethodHandle" ∧ yX8_got.cls ≠ "java/lang/invoke/VarHandle" ∧ (parseMethodDescriptor yX8_got.desc).map (fun d => d.parameters.length) = some 1 := by decide +kernel
theorem hdV_X8_look : yX8_look.cls = RX8 ∧ yX8_look.cls ≠ "java/lang/invoke/MethodHandle" ∧ yX8_look.cls ≠ "java/lang/invoke/VarHandle" ∧ (parseMethodDescriptor yX8_look.desc).map (fun d => d.parameters.length) = some 3 := by decide +kernel
theorem hdV_X8_person : yX8_person.cls = RX8 ∧ yX8_person.cls ≠ "java/lang/invoke/MethodHandle" ∧ yX8_person.cls ≠ "java/lang/invoke/VarHandle" ∧ (parseMethodDescriptor yX8_person.desc).map (fun d => d.parameters.length) = some 2 := by decide +kernel
theorem hdV_X8_price : yX8_price.cls = RX8 ∧ yX8_price.cls ≠ "java/lang/invoke/MethodHandle" ∧ yX8_price.cls ≠ "java/lang/invoke/VarHandle" ∧ (parseMethodDescriptor yX8_price.desc).map (fun d => d.parameters.length) = some 2 := by decide +kernel
theorem hdV_X8_set : yX8_set.cls = RX8 ∧ yX8_set.cls ≠ "java/lang/invoke/MethodHandle" ∧ yX8_set.cls ≠ "java/lang/invoke/VarHandle" ∧ (parseMethodDescriptor yX8_set.desc).map (fun d => d.parameters.length) = some 3 := by decide +kernel
theorem hdV_X8_sheet : yX8_sheet.cls = RX8 ∧ yX8_sheet.cls ≠ "java/lang/invoke/MethodHandle" ∧ yX8_sheet.cls ≠ "java/lang/invoke/VarHandle" ∧ (parseMethodDescriptor yX8_sheet.desc).map (fun d => d.parameters.length) = some 3 := by decide +kernel
theorem hdV_X8_step : yX8_step.cls = RX8 ∧ yX8_step.cls ≠ "java/lang/invoke/MethodHandle" ∧ yX8_step.cls ≠ "java/lang/invoke/VarHandle" ∧ (parseMethodDescriptor yX8_step.desc).map (fun d => d.parameters.length) = some 2 := by decide +kernel
theorem hdV_X8_walk : yX8_walk.cls = RX8 ∧ yX8_walk.cls ≠ "java/lang/invoke/MethodHandle" ∧ yX8_walk.cls ≠ "java/lang/invoke/VarHandle" ∧ (parseMethodDescriptor yX8_walk.desc).map (fun d => d.parameters.length) = some 4 := by decide +kernel
theorem hdV_X8_witnesses : yX8_witnesses.cls = RX8 ∧ yX8_witnesses.cls ≠ "java/lang/invoke/MethodHandle" ∧ yX8_witnesses.cls ≠ "java/lang/invoke/VarHandle" ∧ (parseMethodDescriptor yX8_witnesses.desc).map (fun d => d.parameters.length) = some 1 := by decide +kernel
theorem hdV_X9_city : yX9_city.cls = RX9 ∧ yX9_city.cls ≠ "java/lang/invoke/MethodHandle" ∧ yX9_city.cls ≠ "java/lang/invoke/VarHandle" ∧ (parseMethodDescriptor yX9_city.desc).map (fun d => d.parameters.length) = some 0 := by decide +kernel
theorem hdV_X9_copy : yX9_copy.cls = RX9 ∧ yX9_copy.cls ≠ "java/lang/invoke/MethodHandle" ∧ yX9_copy.cls ≠ "java/lang/invoke/VarHandle" ∧ (parseMethodDescriptor yX9_copy.desc).map (fun d => d.parameters.length) = some 5 := by decide +kernel
theorem hdV_X9_drop : yX9_drop.cls = RX9 ∧ yX9_drop.cls ≠ "java/lang/invoke/MethodHandle" ∧ yX9_drop.cls ≠ "java/lang/invoke/VarHandle" ∧ (parseMethodDescriptor yX9_drop.desc).map (fun d => d.parameters.length) = some 1 := by decide +kernel
theorem hdV_X9_fault : yX9_fault.cls = RX9 ∧ yX9_fault.cls ≠ "java/lang/invoke/MethodHandle" ∧ yX9_fault.cls ≠ "java/lang/invoke/VarHandle" ∧ (parseMethodDescriptor yX9_fault.desc).map (fun d => d.parameters.length) = some 0 := by decide +kernel
theorem hdV_X9_feed : yX9_feed.cls = RX9 ∧ yX9_feed.cls ≠ "java/lang/invoke/MethodHandle" ∧ yX9_feed.cls ≠ "java/lang/invoke/VarHandle" ∧ (parseMethodDescriptor yX9_feed.desc).map (fun d => d.parameters.length) = some 2 := by decide +kernel
theorem hdV_X9_got : yX9_got.cls = RX9 ∧ yX9_got.cls ≠ "java/lang/invoke/MethodHandle" ∧ yX9_got.cls ≠ "java/lang/invoke/VarHandle" ∧ (parseMethodDescriptor yX9_got.desc).map (fun d => d.parameters.length) = some 1 := by decide +kernel
theorem hdV_X9_look : yX9_look.cls = RX9 ∧ yX9_look.cls ≠ "java/lang/invoke/MethodHandle" ∧ yX9_look.cls ≠ "java/lang/invoke/VarHandle" ∧ (parseMethodDescriptor yX9_look.desc).map (fun d => d.parameters.length) = some 3 := by decide +kernel
theorem hdV_X9_person : yX9_person.cls = RX9 ∧ yX9_person.cls ≠ "java/lang/invoke/MethodHandle" ∧ yX9_person.cls ≠ "java/lang/invoke/VarHandle" ∧ (parseMethodDescriptor yX9_person.desc).map (fun d => d.parameters.length) = some 2 := by decide +kernel
theorem hdV_X9_price : yX9_price.cls = RX9 ∧ yX9_price.cls ≠ "java/lang/invoke/MethodHandle" ∧ yX9_price.cls ≠ "java/lang/invoke/VarHandle" ∧ (parseMethodDescriptor yX9_price.desc).map (fun d => d.parameters.length) = some 2 := by decide +kernel
theorem hdV_X9_set : yX9_set.cls = RX9 ∧ yX9_set.cls ≠ "java/lang/invoke/MethodHandle" ∧ yX9_set.cls ≠ "java/lang/invoke/VarHandle" ∧ (parseMethodDescriptor yX9_set.desc).map (fun d => d.parameters.length) = some 3 := by decide +kernel
theorem hdV_X9_sheet : yX9_sheet.cls = RX9 ∧ yX9_sheet.cls ≠ "java/lang/invoke/MethodHandle" ∧ yX9_sheet.cls ≠ "java/lang/invoke/VarHandle" ∧ (parseMethodDescriptor yX9_sheet.desc).map (fun d => d.parameters.length) = some 3 := by decide +kernel
theorem hdV_X9_step : yX9_step.cls = RX9 ∧ yX9_step.cls ≠ "java/lang/invoke/MethodHandle" ∧ yX9_step.cls ≠ "java/lang/invoke/VarHandle" ∧ (parseMethodDescriptor yX9_step.desc).map (fun d => d.parameters.length) = some 2 := by decide +kernel
theorem hdV_X9_walk : yX9_walk.cls = RX9 ∧ yX9_walk.cls ≠ "java/lang/invoke/MethodHandle" ∧ yX9_walk.cls ≠ "java/lang/invoke/VarHandle" ∧ (parseMethodDescriptor yX9_walk.desc).map (fun d => d.parameters.length) = some 4 := by decide +kernel
theorem hdV_X9_witnesses : yX9_witnesses.cls = RX9 ∧ yX9_witnesses.cls ≠ "java/lang/invoke/MethodHandle" ∧ yX9_witnesses.cls ≠ "java/lang/invoke/VarHandle" ∧ (parseMethodDescriptor yX9_witnesses.desc).map (fun d => d.parameters.length) = some 1 := by decide +kernel
set_option maxHeartbeats 4000000 in
set_option maxRecDepth 100000 in
theorem law_sheet {p : Program} (l : Launch) {e : Env} {s : State} {m : MethodId} {below : List Frame} {meth : Method} {c : Code} (D : va_G) (cI cZ cC cS : ClassId) (sq : Nat → Nat) {b L : Nat} {sc : Nat → Int32} {A : Nat → Prop} (C : lC p s m meth c b L sc A) (hK : kW D (tyW cI cZ cC cS) sq s) (hT : sT sq A s s.heap) (ad ay : Nat → Nat) (fq fim : Nat → Option Nat) (hL : L ≤ 3072) (i : Int32) (hi : 0 ≤ i.toInt ∧ i.toInt + 6 ≤ L) (K : ∀ (ln sn : Nat → Int32) (tz : Int32) (bf : Nat → Int32) (lt th k0 k1 : Int32) (g g0 g1 : Nat → Int) (tn : Int32) (tb : Nat → Int32) (iz : Nat → Int32) (fz : Int32) (wx wy : va_W) (H : Heap) (locs : List Loc) (ls : Array Slot), IX cI cC cS ad fq fim ln sn tz bf lt th k0 k1 g g0 g1 tn tb iz fz wx → IY cI cZ ay ln sn tz bf lt th k0 k1 g g0 g1 tn tb iz fz wy → va_P D vwCl (wx ++ wy) H → va_D A (wx ++ wy) → va_S A s.heap H locs → lv_has ls 4 [(3, .int i), (2, .ref (ay 0)), (1, .ref (ad 0)), (0, .ref b)] → W p l e room_1 s m #[Value.ref b] below meth c H locs 98 12032 (lw_Z below #[Value.ref b] s) (F0 m 1034 ls [])) {ln sn : Nat → Int32} {tz : Int32} {bf : Nat → Int32} {lt th k0 k1 : Int32} {g g0 g1 : Nat → Int} {tn : Int32} {tb : Nat → Int32} {iz : Nat → Int32} {fz : Int32} {wx wy : va_W} {H : Heap} {locs : List Loc} {ls : Array Slot} (hX_ : IX cI cC cS ad fq fim ln sn tz bf lt th k0 k1 g g0 g1 tn tb iz fz wx) (hY_ : IY cI cZ ay ln sn tz bf lt th k0 k1 g g0 g1 tn tb iz fz wy) (hP : va_P D vwCl (wx ++ wy) H) (hD : va_D A (wx ++ wy)) (hS : va_S A s.heap H locs) (hl : lv_has ls 4 [(3, .int i), (2, .ref (ay 0)), (1, .ref (ad 0)), (0, .ref b)]) : W p l e room_1 s m #[Value.ref b] below meth c H locs 98 12032 (lw_Z below #[Value.ref b] s) (F0 m 160 ls []) := by
  obtain ⟨S, hr_, hk_, hX, hbl, hA, hAf⟩ := id C
  have hbA : ¬ A b := fun z => absurd (hAf b z) (Nat.not_le.mpr hbl)
  refine lv_aload_n S.1 S.2.1 dL_law_160 rfl (lv_at hl 2 rfl) ?_
  refine lv_aload_n S.1 S.2.1 dL_law_161 rfl (lv_at hl 3 rfl) ?_
  refine lv_iload_n S.1 S.2.1 dL_law_162 rfl (lv_at hl 0 rfl) ?_
  refine lv_iconst (v := (1)) S.1 S.2.1 dL_law_163 (by decide) ?_
  refine lv_iadd S.1 S.2.1 dL_law_164 ?_
  refine lv_topi (fun x_1 ex_1 => ?_)
  have tx_1 : x_1.toInt = i.toInt + (1) := addI (A := i.toInt) (B := 1) ex_1 rfl rfl (by omega) (by omega)
  refine va_sld S.1 S.2.1 hX hbl hbA hS (in_of (by omega) (by omega)) dL_law_165 ?_
  refine lv_topi (fun v_2 ev_2 => ?_)
  refine lv_aload_n S.1 S.2.1 dL_law_166 rfl (lv_at hl 3 rfl) ?_
  refine lv_iload_n S.1 S.2.1 dL_law_167 rfl (lv_at hl 0 rfl) ?_
  refine lv_iconst (v := (2)) S.1 S.2.1 dL_law_168 (by decide) ?_
  refine lv_iadd S.1 S.2.1 dL_law_169 ?_
  refine lv_topi (fun x_3 ex_3 => ?_)
  have tx_3 : x_3.toInt = i.toInt + (2) := addI (A := i.toInt) (B := 2) ex_3 rfl rfl (by omega) (by omega)
  refine va_sld S.1 S.2.1 hX hbl hbA hS (in_of (by omega) (by omega)) dL_law_170 ?_
  refine lv_topi (fun v_4 ev_4 => ?_)
  refine lv_aload_n S.1 S.2.1 dL_law_171 rfl (lv_at hl 3 rfl) ?_
  refine lv_iload_n S.1 S.2.1 dL_law_172 rfl (lv_at hl 0 rfl) ?_
  refine lv_iconst (v := (3)) S.1 S.2.1 dL_law_173 (by decide) ?_
  refine lv_iadd S.1 S.2.1 dL_law_174 ?_
  refine lv_topi (fun x_5 ex_5 => ?_)
  have tx_5 : x_5.toInt = i.toInt + (3) := addI (A := i.toInt) (B := 3) ex_5 rfl rfl (by omega) (by omega)
  refine va_sld S.1 S.2.1 hX hbl hbA hS (in_of (by omega) (by omega)) dL_law_175 ?_
  refine lv_topi (fun v_6 ev_6 => ?_)
  obtain ⟨fs_, he_⟩ := IX_0 hX_
  refine law_ci (C := RX8) (ci := 8) (As := [.int v_2, .int v_4, .int v_6]) (fX_sheet l D cI cZ cC cS sq H.size ad fq fim ln sn tz bf lt th k0 k1 g g0 g1 tn tb iz fz v_2 v_4 v_6 hX_) S gL_law_X8_sheet rfl hdV_X8_sheet ⟨Nat.le_of_ble_eq_true rfl, Nat.le_of_ble_eq_true rfl⟩ ⟨Nat.le_of_ble_eq_true rfl, Nat.le_of_ble_eq_true rfl⟩ hK hT hS hA hP hD rfl he_ rfl hl.1 rfl (Nat.le_of_ble_eq_true rfl) dL_law_176 (fun r1 wx H locs hw hP hD hS => ?_)
  obtain ⟨ln1, sn1, iz1, fz1, hr1, hX_⟩ := hw
  refine lv_pop S.1 S.2.1 dL_law_179 rfl ?_
  refine lv_aload_n S.1 S.2.1 dL_law_180 rfl (lv_at hl 1 rfl) ?_
  refine lv_aload_n S.1 S.2.1 dL_law_181 rfl (lv_at hl 3 rfl) ?_
  refine lv_iload_n S.1 S.2.1 dL_law_182 rfl (lv_at hl 0 rfl) ?_
  refine lv_iconst (v := (1)) S.1 S.2.1 dL_law_183 (by decide) ?_
  refine lv_iadd S.1 S.2.1 dL_law_184 ?_
  refine lv_topi (fun x_7 ex_7 => ?_)
  have qx_7 : x_1 = x_7 := ex_1.trans ex_7.symm
  subst qx_7
  refine va_sld S.1 S.2.1 hX hbl hbA hS (in_of (by omega) (by omega)) dL_law_185 ?_
  refine lv_topi (fun v_8 ev_8 => ?_)
  have qv_8 : v_2 = v_8 := ev_2.trans ev_8.symm
  subst qv_8
  refine lv_aload_n S.1 S.2.1 dL_law_186 rfl (lv_at hl 3 rfl) ?_
  refine lv_iload_n S.1 S.2.1 dL_law_187 rfl (lv_at hl 0 rfl) ?_
  refine lv_iconst (v := (2)) S.1 S.2.1 dL_law_188 (by decide) ?_
  refine lv_iadd S.1 S.2.1 dL_law_189 ?_
  refine lv_topi (fun x_9 ex_9 => ?_)
  have qx_9 : x_3 = x_9 := ex_3.trans ex_9.symm
  subst qx_9
  refine va_sld S.1 S.2.1 hX hbl hbA hS (in_of (by omega) (by omega)) dL_law_190 ?_
  refine lv_topi (fun v_10 ev_10 => ?_)
  have qv_10 : v_4 = v_10 := ev_4.trans ev_10.symm
  subst qv_10
  refine lv_aload_n S.1 S.2.1 dL_law_191 rfl (lv_at hl 3 rfl) ?_
  refine lv_iload_n S.1 S.2.1 dL_law_192 rfl (lv_at hl 0 rfl) ?_
  refine lv_iconst (v := (3)) S.1 S.2.1 dL_law_193 (by decide) ?_
  refine lv_iadd S.1 S.2.1 dL_law_194 ?_
  refine lv_topi (fun x_11 ex_11 => ?_)
  have qx_11 : x_5 = x_11 := ex_5.trans ex_11.symm
  subst qx_11
  refine va_sld S.1 S.2.1 hX hbl hbA hS (in_of (by omega) (by omega)) dL_law_195 ?_
  refine lv_topi (fun v_12 ev_12 => ?_)
  have qv_12 : v_6 = v_12 := ev_6.trans ev_12.symm
  subst qv_12
  obtain ⟨fs_, he_⟩ := IY_0 hY_
  refine law_ci (C := RX9) (ci := 9) (As := [.int v_2, .int v_4, .int v_6]) (fY_sheet l D cI cZ cC cS sq H.size ay ln sn tz bf lt th k0 k1 g g0 g1 tn tb iz fz v_2 v_4 v_6 hY_) S gL_law_X9_sheet rfl hdV_X9_sheet ⟨Nat.le_of_ble_eq_true rfl, Nat.le_of_ble_eq_true rfl⟩ ⟨Nat.le_of_ble_eq_true rfl, Nat.le_of_ble_eq_true rfl⟩ hK hT hS hA hP hD rfl he_ rfl hl.1 rfl (Nat.le_of_ble_eq_true rfl) dL_law_196 (fun r2 wy H locs hw hP hD hS => ?_)
  obtain ⟨ln2, sn2, iz2, fz2, hr2, hY_⟩ := hw
  obtain ⟨er, el, es, ei, ef⟩ := stSheet_eq hr1 hr2
  subst el
  subst es
  subst ei
  subst ef
  refine lv_pop S.1 S.2.1 dL_law_199 rfl ?_
  refine lv_goto (tgt := 1034) S.1 S.2.1 dL_law_200 (by decide) ?_
  exact K ln1 sn1 tz bf lt th k0 k1 g g0 g1 tn tb iz1 fz1 wx wy H _ ls hX_ hY_ hP hD hS hl
set_option maxHeartbeats 4000000 in
set_option maxRecDepth 100000 in
theorem law_set {p : Program} (l : Launch) {e : Env} {s : State} {m : MethodId} {below : List Frame} {meth : Method} {c : Code} (D : va_G) (cI cZ cC cS : ClassId) (sq : Nat → Nat) {b L : Nat} {sc : Nat → Int32} {A : Nat → Prop} (C : lC p s m meth c b L sc A) (hK : kW D (tyW cI cZ cC cS) sq s) (hT : sT sq A s s.heap) (ad ay : Nat → Nat) (fq fim : Nat → Option Nat) (hL : L ≤ 3072) (i : Int32) (hi : 0 ≤ i.toInt ∧ i.toInt + 6 ≤ L) (K : ∀ (ln sn : Nat → Int32) (tz : Int32) (bf : Nat → Int32) (lt th k0 k1 : Int32) (g g0 g1 : Nat → Int) (tn : Int32) (tb : Nat → Int32) (iz : Nat → Int32) (fz : Int32) (wx wy : va_W) (H : Heap) (locs : List Loc) (ls : Array Slot), IX cI cC cS ad fq fim ln sn tz bf lt th k0 k1 g g0 g1 tn tb iz fz wx → IY cI cZ ay ln sn tz bf lt th k0 k1 g g0 g1 tn tb iz fz wy → va_P D vwCl (wx ++ wy) H → va_D A (wx ++ wy) → va_S A s.heap H locs → lv_has ls 4 [(3, .int i), (2, .ref (ay 0)), (1, .ref (ad 0)), (0, .ref b)] → W p l e room_1 s m #[Value.ref b] below meth c H locs 98 12032 (lw_Z below #[Value.ref b] s) (F0 m 1034 ls [])) {ln sn : Nat → Int32} {tz : Int32} {bf : Nat → Int32} {lt th k0 k1 : Int32} {g g0 g1 : Nat → Int} {tn : Int32} {tb : Nat → Int32} {iz : Nat → Int32} {fz : Int32} {wx wy : va_W} {H : Heap} {locs : List Loc} {ls : Array Slot} (hX_ : IX cI cC cS ad fq fim ln sn tz bf lt th k0 k1 g g0 g1 tn tb iz fz wx) (hY_ : IY cI cZ ay ln sn tz bf lt th k0 k1 g g0 g1 tn tb iz fz wy) (hP : va_P D vwCl (wx ++ wy) H) (hD : va_D A (wx ++ wy)) (hS : va_S A s.heap H locs) (hl : lv_has ls 4 [(3, .int i), (2, .ref (ay 0)), (1, .ref (ad 0)), (0, .ref b)]) : W p l e room_1 s m #[Value.ref b] below meth c H locs 98 12032 (lw_Z below #[Value.ref b] s) (F0 m 203 ls []) := by
  obtain ⟨S, hr_, hk_, hX, hbl, hA, hAf⟩ := id C
  have hbA : ¬ A b := fun z => absurd (hAf b z) (Nat.not_le.mpr hbl)
  refine lv_aload_n S.1 S.2.1 dL_law_203 rfl (lv_at hl 2 rfl) ?_
  refine lv_aload_n S.1 S.2.1 dL_law_204 rfl (lv_at hl 3 rfl) ?_
  refine lv_iload_n S.1 S.2.1 dL_law_205 rfl (lv_at hl 0 rfl) ?_
  refine lv_iconst (v := (1)) S.1 S.2.1 dL_law_206 (by decide) ?_
  refine lv_iadd S.1 S.2.1 dL_law_207 ?_
  refine lv_topi (fun x_1 ex_1 => ?_)
  have tx_1 : x_1.toInt = i.toInt + (1) := addI (A := i.toInt) (B := 1) ex_1 rfl rfl (by omega) (by omega)
  refine va_sld S.1 S.2.1 hX hbl hbA hS (in_of (by omega) (by omega)) dL_law_208 ?_
  refine lv_topi (fun v_2 ev_2 => ?_)
  refine lv_aload_n S.1 S.2.1 dL_law_209 rfl (lv_at hl 3 rfl) ?_
  refine lv_iload_n S.1 S.2.1 dL_law_210 rfl (lv_at hl 0 rfl) ?_
  refine lv_iconst (v := (2)) S.1 S.2.1 dL_law_211 (by decide) ?_
  refine lv_iadd S.1 S.2.1 dL_law_212 ?_
  refine lv_topi (fun x_3 ex_3 => ?_)
  have tx_3 : x_3.toInt = i.toInt + (2) := addI (A := i.toInt) (B := 2) ex_3 rfl rfl (by omega) (by omega)
  refine va_sld S.1 S.2.1 hX hbl hbA hS (in_of (by omega) (by omega)) dL_law_213 ?_
  refine lv_topi (fun v_4 ev_4 => ?_)
  refine lv_aload_n S.1 S.2.1 dL_law_214 rfl (lv_at hl 3 rfl) ?_
  refine lv_iload_n S.1 S.2.1 dL_law_215 rfl (lv_at hl 0 rfl) ?_
  refine lv_iconst (v := (3)) S.1 S.2.1 dL_law_216 (by decide) ?_
  refine lv_iadd S.1 S.2.1 dL_law_217 ?_
  refine lv_topi (fun x_5 ex_5 => ?_)
  have tx_5 : x_5.toInt = i.toInt + (3) := addI (A := i.toInt) (B := 3) ex_5 rfl rfl (by omega) (by omega)
  refine va_sld S.1 S.2.1 hX hbl hbA hS (in_of (by omega) (by omega)) dL_law_218 ?_
  refine lv_topi (fun v_6 ev_6 => ?_)
  obtain ⟨fs_, he_⟩ := IX_0 hX_
  refine law_ci (C := RX8) (ci := 8) (As := [.int v_2, .int v_4, .int v_6]) (fX_set l D cI cZ cC cS sq H.size ad fq fim ln sn tz bf lt th k0 k1 g g0 g1 tn tb iz fz v_2 v_4 v_6 hX_) S gL_law_X8_set rfl hdV_X8_set ⟨Nat.le_of_ble_eq_true rfl, Nat.le_of_ble_eq_true rfl⟩ ⟨Nat.le_of_ble_eq_true rfl, Nat.le_of_ble_eq_true rfl⟩ hK hT hS hA hP hD rfl he_ rfl hl.1 rfl (Nat.le_of_ble_eq_true rfl) dL_law_219 (fun r1 wx H locs hw hP hD hS => ?_)
  obtain ⟨iz1, fz1, hr1, hX_⟩ := hw
  refine lv_pop S.1 S.2.1 dL_law_222 rfl ?_
  refine lv_aload_n S.1 S.2.1 dL_law_223 rfl (lv_at hl 1 rfl) ?_
  refine lv_aload_n S.1 S.2.1 dL_law_224 rfl (lv_at hl 3 rfl) ?_
  refine lv_iload_n S.1 S.2.1 dL_law_225 rfl (lv_at hl 0 rfl) ?_
  refine lv_iconst (v := (1)) S.1 S.2.1 dL_law_226 (by decide) ?_
  refine lv_iadd S.1 S.2.1 dL_law_227 ?_
  refine lv_topi (fun x_7 ex_7 => ?_)
  have qx_7 : x_1 = x_7 := ex_1.trans ex_7.symm
  subst qx_7
  refine va_sld S.1 S.2.1 hX hbl hbA hS (in_of (by omega) (by omega)) dL_law_228 ?_
  refine lv_topi (fun v_8 ev_8 => ?_)
  have qv_8 : v_2 = v_8 := ev_2.trans ev_8.symm
  subst qv_8
  refine lv_aload_n S.1 S.2.1 dL_law_229 rfl (lv_at hl 3 rfl) ?_
  refine lv_iload_n S.1 S.2.1 dL_law_230 rfl (lv_at hl 0 rfl) ?_
  refine lv_iconst (v := (2)) S.1 S.2.1 dL_law_231 (by decide) ?_
  refine lv_iadd S.1 S.2.1 dL_law_232 ?_
  refine lv_topi (fun x_9 ex_9 => ?_)
  have qx_9 : x_3 = x_9 := ex_3.trans ex_9.symm
  subst qx_9
  refine va_sld S.1 S.2.1 hX hbl hbA hS (in_of (by omega) (by omega)) dL_law_233 ?_
  refine lv_topi (fun v_10 ev_10 => ?_)
  have qv_10 : v_4 = v_10 := ev_4.trans ev_10.symm
  subst qv_10
  refine lv_aload_n S.1 S.2.1 dL_law_234 rfl (lv_at hl 3 rfl) ?_
  refine lv_iload_n S.1 S.2.1 dL_law_235 rfl (lv_at hl 0 rfl) ?_
  refine lv_iconst (v := (3)) S.1 S.2.1 dL_law_236 (by decide) ?_
  refine lv_iadd S.1 S.2.1 dL_law_237 ?_
  refine lv_topi (fun x_11 ex_11 => ?_)
  have qx_11 : x_5 = x_11 := ex_5.trans ex_11.symm
  subst qx_11
  refine va_sld S.1 S.2.1 hX hbl hbA hS (in_of (by omega) (by omega)) dL_law_238 ?_
  refine lv_topi (fun v_12 ev_12 => ?_)
  have qv_12 : v_6 = v_12 := ev_6.trans ev_12.symm
  subst qv_12
  obtain ⟨fs_, he_⟩ := IY_0 hY_
  refine law_ci (C := RX9) (ci := 9) (As := [.int v_2, .int v_4, .int v_6]) (fY_set l D cI cZ cC cS sq H.size ay ln sn tz bf lt th k0 k1 g g0 g1 tn tb iz fz v_2 v_4 v_6 hY_) S gL_law_X9_set rfl hdV_X9_set ⟨Nat.le_of_ble_eq_true rfl, Nat.le_of_ble_eq_true rfl⟩ ⟨Nat.le_of_ble_eq_true rfl, Nat.le_of_ble_eq_true rfl⟩ hK hT hS hA hP hD rfl he_ rfl hl.1 rfl (Nat.le_of_ble_eq_true rfl) dL_law_239 (fun r2 wy H locs hw hP hD hS => ?_)
  obtain ⟨iz2, fz2, hr2, hY_⟩ := hw
  obtain ⟨er, ei, ef⟩ := stSet_eq hr1 hr2
  subst ei
  subst ef
  refine lv_pop S.1 S.2.1 dL_law_242 rfl ?_
  refine lv_goto (tgt := 1034) S.1 S.2.1 dL_law_243 (by decide) ?_
  exact K ln sn tz bf lt th k0 k1 g g0 g1 tn tb iz1 fz1 wx wy H _ ls hX_ hY_ hP hD hS hl
set_option maxHeartbeats 4000000 in
set_option maxRecDepth 100000 in
theorem law_copy {p : Program} (l : Launch) {e : Env} {s : State} {m : MethodId} {below : List Frame} {meth : Method} {c : Code} (D : va_G) (cI cZ cC cS : ClassId) (sq : Nat → Nat) {b L : Nat} {sc : Nat → Int32} {A : Nat → Prop} (C : lC p s m meth c b L sc A) (hK : kW D (tyW cI cZ cC cS) sq s) (hT : sT sq A s s.heap) (ad ay : Nat → Nat) (fq fim : Nat → Option Nat) (hL : L ≤ 3072) (i : Int32) (hi : 0 ≤ i.toInt ∧ i.toInt + 6 ≤ L) (K : ∀ (ln sn : Nat → Int32) (tz : Int32) (bf : Nat → Int32) (lt th k0 k1 : Int32) (g g0 g1 : Nat → Int) (tn : Int32) (tb : Nat → Int32) (iz : Nat → Int32) (fz : Int32) (wx wy : va_W) (H : Heap) (locs : List Loc) (ls : Array Slot), IX cI cC cS ad fq fim ln sn tz bf lt th k0 k1 g g0 g1 tn tb iz fz wx → IY cI cZ ay ln sn tz bf lt th k0 k1 g g0 g1 tn tb iz fz wy → va_P D vwCl (wx ++ wy) H → va_D A (wx ++ wy) → va_S A s.heap H locs → lv_has ls 4 [(3, .int i), (2, .ref (ay 0)), (1, .ref (ad 0)), (0, .ref b)] → W p l e room_1 s m #[Value.ref b] below meth c H locs 98 12032 (lw_Z below #[Value.ref b] s) (F0 m 1034 ls [])) {ln sn : Nat → Int32} {tz : Int32} {bf : Nat → Int32} {lt th k0 k1 : Int32} {g g0 g1 : Nat → Int} {tn : Int32} {tb : Nat → Int32} {iz : Nat → Int32} {fz : Int32} {wx wy : va_W} {H : Heap} {locs : List Loc} {ls : Array Slot} (hX_ : IX cI cC cS ad fq fim ln sn tz bf lt th k0 k1 g g0 g1 tn tb iz fz wx) (hY_ : IY cI cZ ay ln sn tz bf lt th k0 k1 g g0 g1 tn tb iz fz wy) (hP : va_P D vwCl (wx ++ wy) H) (hD : va_D A (wx ++ wy)) (hS : va_S A s.heap H locs) (hl : lv_has ls 4 [(3, .int i), (2, .ref (ay 0)), (1, .ref (ad 0)), (0, .ref b)]) : W p l e room_1 s m #[Value.ref b] below meth c H locs 98 12032 (lw_Z below #[Value.ref b] s) (F0 m 246 ls []) := by
  obtain ⟨S, hr_, hk_, hX, hbl, hA, hAf⟩ := id C
  have hbA : ¬ A b := fun z => absurd (hAf b z) (Nat.not_le.mpr hbl)
  refine lv_aload_n S.1 S.2.1 dL_law_246 rfl (lv_at hl 2 rfl) ?_
  refine lv_aload_n S.1 S.2.1 dL_law_247 rfl (lv_at hl 3 rfl) ?_
  refine lv_iload_n S.1 S.2.1 dL_law_248 rfl (lv_at hl 0 rfl) ?_
  refine lv_iconst (v := (1)) S.1 S.2.1 dL_law_249 (by decide) ?_
  refine lv_iadd S.1 S.2.1 dL_law_250 ?_
  refine lv_topi (fun x_1 ex_1 => ?_)
  have tx_1 : x_1.toInt = i.toInt + (1) := addI (A := i.toInt) (B := 1) ex_1 rfl rfl (by omega) (by omega)
  refine va_sld S.1 S.2.1 hX hbl hbA hS (in_of (by omega) (by omega)) dL_law_251 ?_
  refine lv_topi (fun v_2 ev_2 => ?_)
  refine lv_aload_n S.1 S.2.1 dL_law_252 rfl (lv_at hl 3 rfl) ?_
  refine lv_iload_n S.1 S.2.1 dL_law_253 rfl (lv_at hl 0 rfl) ?_
  refine lv_iconst (v := (2)) S.1 S.2.1 dL_law_254 (by decide) ?_
  refine lv_iadd S.1 S.2.1 dL_law_255 ?_
  refine lv_topi (fun x_3 ex_3 => ?_)
  have tx_3 : x_3.toInt = i.toInt + (2) := addI (A := i.toInt) (B := 2) ex_3 rfl rfl (by omega) (by omega)
  refine va_sld S.1 S.2.1 hX hbl hbA hS (in_of (by omega) (by omega)) dL_law_256 ?_
  refine lv_topi (fun v_4 ev_4 => ?_)
  refine lv_aload_n S.1 S.2.1 dL_law_257 rfl (lv_at hl 3 rfl) ?_
  refine lv_iload_n S.1 S.2.1 dL_law_258 rfl (lv_at hl 0 rfl) ?_
  refine lv_iconst (v := (3)) S.1 S.2.1 dL_law_259 (by decide) ?_
  refine lv_iadd S.1 S.2.1 dL_law_260 ?_
  refine lv_topi (fun x_5 ex_5 => ?_)
  have tx_5 : x_5.toInt = i.toInt + (3) := addI (A := i.toInt) (B := 3) ex_5 rfl rfl (by omega) (by omega)
  refine va_sld S.1 S.2.1 hX hbl hbA hS (in_of (by omega) (by omega)) dL_law_261 ?_
  refine lv_topi (fun v_6 ev_6 => ?_)
  refine lv_aload_n S.1 S.2.1 dL_law_262 rfl (lv_at hl 3 rfl) ?_
  refine lv_iload_n S.1 S.2.1 dL_law_263 rfl (lv_at hl 0 rfl) ?_
  refine lv_iconst (v := (4)) S.1 S.2.1 dL_law_264 (by decide) ?_
  refine lv_iadd S.1 S.2.1 dL_law_265 ?_
  refine lv_topi (fun x_7 ex_7 => ?_)
  have tx_7 : x_7.toInt = i.toInt + (4) := addI (A := i.toInt) (B := 4) ex_7 rfl rfl (by omega) (by omega)
  refine va_sld S.1 S.2.1 hX hbl hbA hS (in_of (by omega) (by omega)) dL_law_266 ?_
  refine lv_topi (fun v_8 ev_8 => ?_)
  refine lv_aload_n S.1 S.2.1 dL_law_267 rfl (lv_at hl 3 rfl) ?_
  refine lv_iload_n S.1 S.2.1 dL_law_268 rfl (lv_at hl 0 rfl) ?_
  refine lv_iconst (v := (5)) S.1 S.2.1 dL_law_269 (by decide) ?_
  refine lv_iadd S.1 S.2.1 dL_law_270 ?_
  refine lv_topi (fun x_9 ex_9 => ?_)
  have tx_9 : x_9.toInt = i.toInt + (5) := addI (A := i.toInt) (B := 5) ex_9 rfl rfl (by omega) (by omega)
  refine va_sld S.1 S.2.1 hX hbl hbA hS (in_of (by omega) (by omega)) dL_law_271 ?_
  refine lv_topi (fun v_10 ev_10 => ?_)
  obtain ⟨fs_, he_⟩ := IX_0 hX_
  refine law_ci (C := RX8) (ci := 8) (As := [.int v_2, .int v_4, .int v_6, .int v_8, .int v_10]) (fX_copy l D cI cZ cC cS sq H.size ad fq fim ln sn tz bf lt th k0 k1 g g0 g1 tn tb iz fz v_2 v_4 v_6 v_8 v_10 hX_) S gL_law_X8_copy rfl hdV_X8_copy ⟨Nat.le_of_ble_eq_true rfl, Nat.le_of_ble_eq_true rfl⟩ ⟨Nat.le_of_ble_eq_true rfl, Nat.le_of_ble_eq_true rfl⟩ hK hT hS hA hP hD rfl he_ rfl hl.1 rfl (Nat.le_of_ble_eq_true rfl) dL_law_272 (fun r1 wx H locs hw hP hD hS => ?_)
  obtain ⟨iz1, fz1, hr1, hX_⟩ := hw
  refine lv_pop S.1 S.2.1 dL_law_275 rfl ?_
  refine lv_aload_n S.1 S.2.1 dL_law_276 rfl (lv_at hl 1 rfl) ?_
  refine lv_aload_n S.1 S.2.1 dL_law_277 rfl (lv_at hl 3 rfl) ?_
  refine lv_iload_n S.1 S.2.1 dL_law_278 rfl (lv_at hl 0 rfl) ?_
  refine lv_iconst (v := (1)) S.1 S.2.1 dL_law_279 (by decide) ?_
  refine lv_iadd S.1 S.2.1 dL_law_280 ?_
  refine lv_topi (fun x_11 ex_11 => ?_)
  have qx_11 : x_1 = x_11 := ex_1.trans ex_11.symm
  subst qx_11
  refine va_sld S.1 S.2.1 hX hbl hbA hS (in_of (by omega) (by omega)) dL_law_281 ?_
  refine lv_topi (fun v_12 ev_12 => ?_)
  have qv_12 : v_2 = v_12 := ev_2.trans ev_12.symm
  subst qv_12
  refine lv_aload_n S.1 S.2.1 dL_law_282 rfl (lv_at hl 3 rfl) ?_
  refine lv_iload_n S.1 S.2.1 dL_law_283 rfl (lv_at hl 0 rfl) ?_
  refine lv_iconst (v := (2)) S.1 S.2.1 dL_law_284 (by decide) ?_
  refine lv_iadd S.1 S.2.1 dL_law_285 ?_
  refine lv_topi (fun x_13 ex_13 => ?_)
  have qx_13 : x_3 = x_13 := ex_3.trans ex_13.symm
  subst qx_13
  refine va_sld S.1 S.2.1 hX hbl hbA hS (in_of (by omega) (by omega)) dL_law_286 ?_
  refine lv_topi (fun v_14 ev_14 => ?_)
  have qv_14 : v_4 = v_14 := ev_4.trans ev_14.symm
  subst qv_14
  refine lv_aload_n S.1 S.2.1 dL_law_287 rfl (lv_at hl 3 rfl) ?_
  refine lv_iload_n S.1 S.2.1 dL_law_288 rfl (lv_at hl 0 rfl) ?_
  refine lv_iconst (v := (3)) S.1 S.2.1 dL_law_289 (by decide) ?_
  refine lv_iadd S.1 S.2.1 dL_law_290 ?_
  refine lv_topi (fun x_15 ex_15 => ?_)
  have qx_15 : x_5 = x_15 := ex_5.trans ex_15.symm
  subst qx_15
  refine va_sld S.1 S.2.1 hX hbl hbA hS (in_of (by omega) (by omega)) dL_law_291 ?_
  refine lv_topi (fun v_16 ev_16 => ?_)
  have qv_16 : v_6 = v_16 := ev_6.trans ev_16.symm
  subst qv_16
  refine lv_aload_n S.1 S.2.1 dL_law_292 rfl (lv_at hl 3 rfl) ?_
  refine lv_iload_n S.1 S.2.1 dL_law_293 rfl (lv_at hl 0 rfl) ?_
  refine lv_iconst (v := (4)) S.1 S.2.1 dL_law_294 (by decide) ?_
  refine lv_iadd S.1 S.2.1 dL_law_295 ?_
  refine lv_topi (fun x_17 ex_17 => ?_)
  have qx_17 : x_7 = x_17 := ex_7.trans ex_17.symm
  subst qx_17
  refine va_sld S.1 S.2.1 hX hbl hbA hS (in_of (by omega) (by omega)) dL_law_296 ?_
  refine lv_topi (fun v_18 ev_18 => ?_)
  have qv_18 : v_8 = v_18 := ev_8.trans ev_18.symm
  subst qv_18
  refine lv_aload_n S.1 S.2.1 dL_law_297 rfl (lv_at hl 3 rfl) ?_
  refine lv_iload_n S.1 S.2.1 dL_law_298 rfl (lv_at hl 0 rfl) ?_
  refine lv_iconst (v := (5)) S.1 S.2.1 dL_law_299 (by decide) ?_
  refine lv_iadd S.1 S.2.1 dL_law_300 ?_
  refine lv_topi (fun x_19 ex_19 => ?_)
  have qx_19 : x_9 = x_19 := ex_9.trans ex_19.symm
  subst qx_19
  refine va_sld S.1 S.2.1 hX hbl hbA hS (in_of (by omega) (by omega)) dL_law_301 ?_
  refine lv_topi (fun v_20 ev_20 => ?_)
  have qv_20 : v_10 = v_20 := ev_10.trans ev_20.symm
  subst qv_20
  obtain ⟨fs_, he_⟩ := IY_0 hY_
  refine law_ci (C := RX9) (ci := 9) (As := [.int v_2, .int v_4, .int v_6, .int v_8, .int v_10]) (fY_copy l D cI cZ cC cS sq H.size ay ln sn tz bf lt th k0 k1 g g0 g1 tn tb iz fz v_2 v_4 v_6 v_8 v_10 hY_) S gL_law_X9_copy rfl hdV_X9_copy ⟨Nat.le_of_ble_eq_true rfl, Nat.le_of_ble_eq_true rfl⟩ ⟨Nat.le_of_ble_eq_true rfl, Nat.le_of_ble_eq_true rfl⟩ hK hT hS hA hP hD rfl he_ rfl hl.1 rfl (Nat.le_of_ble_eq_true rfl) dL_law_302 (fun r2 wy H locs hw hP hD hS => ?_)
  obtain ⟨iz2, fz2, hr2, hY_⟩ := hw
  obtain ⟨er, ei, ef⟩ := stCopy_eq hr1 hr2
  subst ei
  subst ef
  refine lv_pop S.1 S.2.1 dL_law_305 rfl ?_
  refine lv_goto (tgt := 1034) S.1 S.2.1 dL_law_306 (by decide) ?_
  exact K ln sn tz bf lt th k0 k1 g g0 g1 tn tb iz1 fz1 wx wy H _ ls hX_ hY_ hP hD hS hl
set_option maxHeartbeats 4000000 in
set_option maxRecDepth 100000 in
theorem law_drop {p : Program} (l : Launch) {e : Env} {s : State} {m : MethodId} {below : List Frame} {meth : Method} {c : Code} (D : va_G) (cI cZ cC cS : ClassId) (sq : Nat → Nat) {b L : Nat} {sc : Nat → Int32} {A : Nat → Prop} (C : lC p s m meth c b L sc A) (hK : kW D (tyW cI cZ cC cS) sq s) (hT : sT sq A s s.heap) (ad ay : Nat → Nat) (fq fim : Nat → Option Nat) (hL : L ≤ 3072) (i : Int32) (hi : 0 ≤ i.toInt ∧ i.toInt + 6 ≤ L) (K : ∀ (ln sn : Nat → Int32) (tz : Int32) (bf : Nat → Int32) (lt th k0 k1 : Int32) (g g0 g1 : Nat → Int) (tn : Int32) (tb : Nat → Int32) (iz : Nat → Int32) (fz : Int32) (wx wy : va_W) (H : Heap) (locs : List Loc) (ls : Array Slot), IX cI cC cS ad fq fim ln sn tz bf lt th k0 k1 g g0 g1 tn tb iz fz wx → IY cI cZ ay ln sn tz bf lt th k0 k1 g g0 g1 tn tb iz fz wy → va_P D vwCl (wx ++ wy) H → va_D A (wx ++ wy) → va_S A s.heap H locs → lv_has ls 4 [(3, .int i), (2, .ref (ay 0)), (1, .ref (ad 0)), (0, .ref b)] → W p l e room_1 s m #[Value.ref b] below meth c H locs 98 12032 (lw_Z below #[Value.ref b] s) (F0 m 1034 ls [])) {ln sn : Nat → Int32} {tz : Int32} {bf : Nat → Int32} {lt th k0 k1 : Int32} {g g0 g1 : Nat → Int} {tn : Int32} {tb : Nat → Int32} {iz : Nat → Int32} {fz : Int32} {wx wy : va_W} {H : Heap} {locs : List Loc} {ls : Array Slot} (hX_ : IX cI cC cS ad fq fim ln sn tz bf lt th k0 k1 g g0 g1 tn tb iz fz wx) (hY_ : IY cI cZ ay ln sn tz bf lt th k0 k1 g g0 g1 tn tb iz fz wy) (hP : va_P D vwCl (wx ++ wy) H) (hD : va_D A (wx ++ wy)) (hS : va_S A s.heap H locs) (hl : lv_has ls 4 [(3, .int i), (2, .ref (ay 0)), (1, .ref (ad 0)), (0, .ref b)]) : W p l e room_1 s m #[Value.ref b] below meth c H locs 98 12032 (lw_Z below #[Value.ref b] s) (F0 m 309 ls []) := by
  obtain ⟨S, hr_, hk_, hX, hbl, hA, hAf⟩ := id C
  have hbA : ¬ A b := fun z => absurd (hAf b z) (Nat.not_le.mpr hbl)
  refine lv_aload_n S.1 S.2.1 dL_law_309 rfl (lv_at hl 2 rfl) ?_
  refine lv_aload_n S.1 S.2.1 dL_law_310 rfl (lv_at hl 3 rfl) ?_
  refine lv_iload_n S.1 S.2.1 dL_law_311 rfl (lv_at hl 0 rfl) ?_
  refine lv_iconst (v := (1)) S.1 S.2.1 dL_law_312 (by decide) ?_
  refine lv_iadd S.1 S.2.1 dL_law_313 ?_
  refine lv_topi (fun x_1 ex_1 => ?_)
  have tx_1 : x_1.toInt = i.toInt + (1) := addI (A := i.toInt) (B := 1) ex_1 rfl rfl (by omega) (by omega)
  refine va_sld S.1 S.2.1 hX hbl hbA hS (in_of (by omega) (by omega)) dL_law_314 ?_
  refine lv_topi (fun v_2 ev_2 => ?_)
  obtain ⟨fs_, he_⟩ := IX_0 hX_
  refine law_ci (C := RX8) (ci := 8) (As := [.int v_2]) (fX_drop l D cI cZ cC cS sq H.size ad fq fim ln sn tz bf lt th k0 k1 g g0 g1 tn tb iz fz v_2 hX_) S gL_law_X8_drop rfl hdV_X8_drop ⟨Nat.le_of_ble_eq_true rfl, Nat.le_of_ble_eq_true rfl⟩ ⟨Nat.le_of_ble_eq_true rfl, Nat.le_of_ble_eq_true rfl⟩ hK hT hS hA hP hD rfl he_ rfl hl.1 rfl (Nat.le_of_ble_eq_true rfl) dL_law_315 (fun r1 wx H locs hw hP hD hS => ?_)
  obtain ⟨ln1, sn1, iz1, fz1, hr1, hX_⟩ := hw
  refine lv_pop S.1 S.2.1 dL_law_318 rfl ?_
  refine lv_aload_n S.1 S.2.1 dL_law_319 rfl (lv_at hl 1 rfl) ?_
  refine lv_aload_n S.1 S.2.1 dL_law_320 rfl (lv_at hl 3 rfl) ?_
  refine lv_iload_n S.1 S.2.1 dL_law_321 rfl (lv_at hl 0 rfl) ?_
  refine lv_iconst (v := (1)) S.1 S.2.1 dL_law_322 (by decide) ?_
  refine lv_iadd S.1 S.2.1 dL_law_323 ?_
  refine lv_topi (fun x_3 ex_3 => ?_)
  have qx_3 : x_1 = x_3 := ex_1.trans ex_3.symm
  subst qx_3
  refine va_sld S.1 S.2.1 hX hbl hbA hS (in_of (by omega) (by omega)) dL_law_324 ?_
  refine lv_topi (fun v_4 ev_4 => ?_)
  have qv_4 : v_2 = v_4 := ev_2.trans ev_4.symm
  subst qv_4
  obtain ⟨fs_, he_⟩ := IY_0 hY_
  refine law_ci (C := RX9) (ci := 9) (As := [.int v_2]) (fY_drop l D cI cZ cC cS sq H.size ay ln sn tz bf lt th k0 k1 g g0 g1 tn tb iz fz v_2 hY_) S gL_law_X9_drop rfl hdV_X9_drop ⟨Nat.le_of_ble_eq_true rfl, Nat.le_of_ble_eq_true rfl⟩ ⟨Nat.le_of_ble_eq_true rfl, Nat.le_of_ble_eq_true rfl⟩ hK hT hS hA hP hD rfl he_ rfl hl.1 rfl (Nat.le_of_ble_eq_true rfl) dL_law_325 (fun r2 wy H locs hw hP hD hS => ?_)
  obtain ⟨ln2, sn2, iz2, fz2, hr2, hY_⟩ := hw
  obtain ⟨er, el, es, ei, ef⟩ := stDrop_eq hr1 hr2
  subst el
  subst es
  subst ei
  subst ef
  refine lv_pop S.1 S.2.1 dL_law_328 rfl ?_
  refine lv_goto (tgt := 1034) S.1 S.2.1 dL_law_329 (by decide) ?_
  exact K ln1 sn1 tz bf lt th k0 k1 g g0 g1 tn tb iz1 fz1 wx wy H _ ls hX_ hY_ hP hD hS hl
set_option maxHeartbeats 4000000 in
set_option maxRecDepth 100000 in
theorem law_feed {p : Program} (l : Launch) {e : Env} {s : State} {m : MethodId} {below : List Frame} {meth : Method} {c : Code} (D : va_G) (cI cZ cC cS : ClassId) (sq : Nat → Nat) {b L : Nat} {sc : Nat → Int32} {A : Nat → Prop} (C : lC p s m meth c b L sc A) (hK : kW D (tyW cI cZ cC cS) sq s) (hT : sT sq A s s.heap) (ad ay : Nat → Nat) (fq fim : Nat → Option Nat) (hL : L ≤ 3072) (i : Int32) (hi : 0 ≤ i.toInt ∧ i.toInt + 6 ≤ L) (K : ∀ (ln sn : Nat → Int32) (tz : Int32) (bf : Nat → Int32) (lt th k0 k1 : Int32) (g g0 g1 : Nat → Int) (tn : Int32) (tb : Nat → Int32) (iz : Nat → Int32) (fz : Int32) (wx wy : va_W) (H : Heap) (locs : List Loc) (ls : Array Slot), IX cI cC cS ad fq fim ln sn tz bf lt th k0 k1 g g0 g1 tn tb iz fz wx → IY cI cZ ay ln sn tz bf lt th k0 k1 g g0 g1 tn tb iz fz wy → va_P D vwCl (wx ++ wy) H → va_D A (wx ++ wy) → va_S A s.heap H locs → lv_has ls 4 [(3, .int i), (2, .ref (ay 0)), (1, .ref (ad 0)), (0, .ref b)] → W p l e room_1 s m #[Value.ref b] below meth c H locs 98 12032 (lw_Z below #[Value.ref b] s) (F0 m 1034 ls [])) {ln sn : Nat → Int32} {tz : Int32} {bf : Nat → Int32} {lt th k0 k1 : Int32} {g g0 g1 : Nat → Int} {tn : Int32} {tb : Nat → Int32} {iz : Nat → Int32} {fz : Int32} {wx wy : va_W} {H : Heap} {locs : List Loc} {ls : Array Slot} (hX_ : IX cI cC cS ad fq fim ln sn tz bf lt th k0 k1 g g0 g1 tn tb iz fz wx) (hY_ : IY cI cZ ay ln sn tz bf lt th k0 k1 g g0 g1 tn tb iz fz wy) (hP : va_P D vwCl (wx ++ wy) H) (hD : va_D A (wx ++ wy)) (hS : va_S A s.heap H locs) (hl : lv_has ls 4 [(3, .int i), (2, .ref (ay 0)), (1, .ref (ad 0)), (0, .ref b)]) : W p l e room_1 s m #[Value.ref b] below meth c H locs 98 12032 (lw_Z below #[Value.ref b] s) (F0 m 332 ls []) := by
  obtain ⟨S, hr_, hk_, hX, hbl, hA, hAf⟩ := id C
  have hbA : ¬ A b := fun z => absurd (hAf b z) (Nat.not_le.mpr hbl)
  refine lv_aload_n S.1 S.2.1 dL_law_332 rfl (lv_at hl 2 rfl) ?_
  refine lv_aload_n S.1 S.2.1 dL_law_333 rfl (lv_at hl 3 rfl) ?_
  refine lv_iload_n S.1 S.2.1 dL_law_334 rfl (lv_at hl 0 rfl) ?_
  refine lv_iconst (v := (1)) S.1 S.2.1 dL_law_335 (by decide) ?_
  refine lv_iadd S.1 S.2.1 dL_law_336 ?_
  refine lv_topi (fun x_1 ex_1 => ?_)
  have tx_1 : x_1.toInt = i.toInt + (1) := addI (A := i.toInt) (B := 1) ex_1 rfl rfl (by omega) (by omega)
  refine va_sld S.1 S.2.1 hX hbl hbA hS (in_of (by omega) (by omega)) dL_law_337 ?_
  refine lv_topi (fun v_2 ev_2 => ?_)
  refine lv_i2l (v := v_2.toInt64) S.1 S.2.1 dL_law_338 rfl ?_
  refine lv_bipush (v := (32)) S.1 S.2.1 dL_law_339 (by decide) ?_
  refine lv_lshl S.1 S.2.1 dL_law_341 rfl ?_
  refine lv_topl (fun z_3 ez_3 => ?_)
  refine lv_aload_n S.1 S.2.1 dL_law_342 rfl (lv_at hl 3 rfl) ?_
  refine lv_iload_n S.1 S.2.1 dL_law_343 rfl (lv_at hl 0 rfl) ?_
  refine lv_iconst (v := (2)) S.1 S.2.1 dL_law_344 (by decide) ?_
  refine lv_iadd S.1 S.2.1 dL_law_345 ?_
  refine lv_topi (fun x_4 ex_4 => ?_)
  have tx_4 : x_4.toInt = i.toInt + (2) := addI (A := i.toInt) (B := 2) ex_4 rfl rfl (by omega) (by omega)
  refine va_sld S.1 S.2.1 hX hbl hbA hS (in_of (by omega) (by omega)) dL_law_346 ?_
  refine lv_topi (fun v_5 ev_5 => ?_)
  refine lv_i2l (v := v_5.toInt64) S.1 S.2.1 dL_law_347 rfl ?_
  refine lv_ldc2 (v := (4294967295)) S.1 S.2.1 S.2.2.2.1 (S.2.2.2.2 (.constantLong RL 32 (4294967295)) (by decide +kernel)) dL_law_348 ?_
  refine lv_land S.1 S.2.1 dL_law_351 ?_
  refine lv_topl (fun z_6 ez_6 => ?_)
  refine lv_lor S.1 S.2.1 dL_law_352 ?_
  refine lv_topl (fun z_7 ez_7 => ?_)
  refine lv_aload_n S.1 S.2.1 dL_law_353 rfl (lv_at hl 3 rfl) ?_
  refine lv_iload_n S.1 S.2.1 dL_law_354 rfl (lv_at hl 0 rfl) ?_
  refine lv_iconst (v := (3)) S.1 S.2.1 dL_law_355 (by decide) ?_
  refine lv_iadd S.1 S.2.1 dL_law_356 ?_
  refine lv_topi (fun x_8 ex_8 => ?_)
  have tx_8 : x_8.toInt = i.toInt + (3) := addI (A := i.toInt) (B := 3) ex_8 rfl rfl (by omega) (by omega)
  refine va_sld S.1 S.2.1 hX hbl hbA hS (in_of (by omega) (by omega)) dL_law_357 ?_
  refine lv_topi (fun v_9 ev_9 => ?_)
  obtain ⟨fs_, he_⟩ := IX_0 hX_
  refine law_ci (C := RX8) (ci := 8) (As := [.long z_7, .int v_9]) (fX_feed l D cI cZ cC cS sq H.size ad fq fim ln sn tz bf lt th k0 k1 g g0 g1 tn tb iz fz z_7 v_9 hX_) S gL_law_X8_feed rfl hdV_X8_feed ⟨Nat.le_of_ble_eq_true rfl, Nat.le_of_ble_eq_true rfl⟩ ⟨Nat.le_of_ble_eq_true rfl, Nat.le_of_ble_eq_true rfl⟩ hK hT hS hA hP hD rfl he_ rfl hl.1 rfl (Nat.le_of_ble_eq_true rfl) dL_law_358 (fun r1 wx H locs hw hP hD hS => ?_)
  obtain ⟨tz1, bf1, hr1, hX_⟩ := hw
  refine lv_pop S.1 S.2.1 dL_law_361 rfl ?_
  refine lv_aload_n S.1 S.2.1 dL_law_362 rfl (lv_at hl 1 rfl) ?_
  refine lv_aload_n S.1 S.2.1 dL_law_363 rfl (lv_at hl 3 rfl) ?_
  refine lv_iload_n S.1 S.2.1 dL_law_364 rfl (lv_at hl 0 rfl) ?_
  refine lv_iconst (v := (1)) S.1 S.2.1 dL_law_365 (by decide) ?_
  refine lv_iadd S.1 S.2.1 dL_law_366 ?_
  refine lv_topi (fun x_10 ex_10 => ?_)
  have qx_10 : x_1 = x_10 := ex_1.trans ex_10.symm
  subst qx_10
  refine va_sld S.1 S.2.1 hX hbl hbA hS (in_of (by omega) (by omega)) dL_law_367 ?_
  refine lv_topi (fun v_11 ev_11 => ?_)
  have qv_11 : v_2 = v_11 := ev_2.trans ev_11.symm
  subst qv_11
  refine lv_i2l (v := v_2.toInt64) S.1 S.2.1 dL_law_368 rfl ?_
  refine lv_bipush (v := (32)) S.1 S.2.1 dL_law_369 (by decide) ?_
  refine lv_lshl S.1 S.2.1 dL_law_371 rfl ?_
  refine lv_topl (fun z_12 ez_12 => ?_)
  have qz_12 : z_3 = z_12 := ez_3.trans ez_12.symm
  subst qz_12
  refine lv_aload_n S.1 S.2.1 dL_law_372 rfl (lv_at hl 3 rfl) ?_
  refine lv_iload_n S.1 S.2.1 dL_law_373 rfl (lv_at hl 0 rfl) ?_
  refine lv_iconst (v := (2)) S.1 S.2.1 dL_law_374 (by decide) ?_
  refine lv_iadd S.1 S.2.1 dL_law_375 ?_
  refine lv_topi (fun x_13 ex_13 => ?_)
  have qx_13 : x_4 = x_13 := ex_4.trans ex_13.symm
  subst qx_13
  refine va_sld S.1 S.2.1 hX hbl hbA hS (in_of (by omega) (by omega)) dL_law_376 ?_
  refine lv_topi (fun v_14 ev_14 => ?_)
  have qv_14 : v_5 = v_14 := ev_5.trans ev_14.symm
  subst qv_14
  refine lv_i2l (v := v_5.toInt64) S.1 S.2.1 dL_law_377 rfl ?_
  refine lv_ldc2 (v := (4294967295)) S.1 S.2.1 S.2.2.2.1 (S.2.2.2.2 (.constantLong RL 32 (4294967295)) (by decide +kernel)) dL_law_378 ?_
  refine lv_land S.1 S.2.1 dL_law_381 ?_
  refine lv_topl (fun z_15 ez_15 => ?_)
  have qz_15 : z_6 = z_15 := ez_6.trans ez_15.symm
  subst qz_15
  refine lv_lor S.1 S.2.1 dL_law_382 ?_
  refine lv_topl (fun z_16 ez_16 => ?_)
  have qz_16 : z_7 = z_16 := ez_7.trans ez_16.symm
  subst qz_16
  refine lv_aload_n S.1 S.2.1 dL_law_383 rfl (lv_at hl 3 rfl) ?_
  refine lv_iload_n S.1 S.2.1 dL_law_384 rfl (lv_at hl 0 rfl) ?_
  refine lv_iconst (v := (3)) S.1 S.2.1 dL_law_385 (by decide) ?_
  refine lv_iadd S.1 S.2.1 dL_law_386 ?_
  refine lv_topi (fun x_17 ex_17 => ?_)
  have qx_17 : x_8 = x_17 := ex_8.trans ex_17.symm
  subst qx_17
  refine va_sld S.1 S.2.1 hX hbl hbA hS (in_of (by omega) (by omega)) dL_law_387 ?_
  refine lv_topi (fun v_18 ev_18 => ?_)
  have qv_18 : v_9 = v_18 := ev_9.trans ev_18.symm
  subst qv_18
  obtain ⟨fs_, he_⟩ := IY_0 hY_
  refine law_ci (C := RX9) (ci := 9) (As := [.long z_7, .int v_9]) (fY_feed l D cI cZ cC cS sq H.size ay ln sn tz bf lt th k0 k1 g g0 g1 tn tb iz fz z_7 v_9 hY_) S gL_law_X9_feed rfl hdV_X9_feed ⟨Nat.le_of_ble_eq_true rfl, Nat.le_of_ble_eq_true rfl⟩ ⟨Nat.le_of_ble_eq_true rfl, Nat.le_of_ble_eq_true rfl⟩ hK hT hS hA hP hD rfl he_ rfl hl.1 rfl (Nat.le_of_ble_eq_true rfl) dL_law_388 (fun r2 wy H locs hw hP hD hS => ?_)
  obtain ⟨tz2, bf2, hr2, hY_⟩ := hw
  obtain ⟨er, et, eb⟩ := stFeed_eq hr1 hr2
  subst et
  subst eb
  refine lv_pop S.1 S.2.1 dL_law_391 rfl ?_
  refine lv_goto (tgt := 1034) S.1 S.2.1 dL_law_392 (by decide) ?_
  exact K ln sn tz1 bf1 lt th k0 k1 g g0 g1 tn tb iz fz wx wy H _ ls hX_ hY_ hP hD hS hl
set_option maxHeartbeats 4000000 in
set_option maxRecDepth 100000 in
theorem law_city {p : Program} (l : Launch) {e : Env} {s : State} {m : MethodId} {below : List Frame} {meth : Method} {c : Code} (D : va_G) (cI cZ cC cS : ClassId) (sq : Nat → Nat) {b L : Nat} {sc : Nat → Int32} {A : Nat → Prop} (C : lC p s m meth c b L sc A) (hK : kW D (tyW cI cZ cC cS) sq s) (hT : sT sq A s s.heap) (ad ay : Nat → Nat) (fq fim : Nat → Option Nat) (hL : L ≤ 3072) (i : Int32) (hi : 0 ≤ i.toInt ∧ i.toInt + 6 ≤ L) (K : ∀ (ln sn : Nat → Int32) (tz : Int32) (bf : Nat → Int32) (lt th k0 k1 : Int32) (g g0 g1 : Nat → Int) (tn : Int32) (tb : Nat → Int32) (iz : Nat → Int32) (fz : Int32) (wx wy : va_W) (H : Heap) (locs : List Loc) (ls : Array Slot), IX cI cC cS ad fq fim ln sn tz bf lt th k0 k1 g g0 g1 tn tb iz fz wx → IY cI cZ ay ln sn tz bf lt th k0 k1 g g0 g1 tn tb iz fz wy → va_P D vwCl (wx ++ wy) H → va_D A (wx ++ wy) → va_S A s.heap H locs → lv_has ls 4 [(3, .int i), (2, .ref (ay 0)), (1, .ref (ad 0)), (0, .ref b)] → W p l e room_1 s m #[Value.ref b] below meth c H locs 98 12032 (lw_Z below #[Value.ref b] s) (F0 m 1034 ls [])) {ln sn : Nat → Int32} {tz : Int32} {bf : Nat → Int32} {lt th k0 k1 : Int32} {g g0 g1 : Nat → Int} {tn : Int32} {tb : Nat → Int32} {iz : Nat → Int32} {fz : Int32} {wx wy : va_W} {H : Heap} {locs : List Loc} {ls : Array Slot} (hX_ : IX cI cC cS ad fq fim ln sn tz bf lt th k0 k1 g g0 g1 tn tb iz fz wx) (hY_ : IY cI cZ ay ln sn tz bf lt th k0 k1 g g0 g1 tn tb iz fz wy) (hP : va_P D vwCl (wx ++ wy) H) (hD : va_D A (wx ++ wy)) (hS : va_S A s.heap H locs) (hl : lv_has ls 4 [(3, .int i), (2, .ref (ay 0)), (1, .ref (ad 0)), (0, .ref b)]) : W p l e room_1 s m #[Value.ref b] below meth c H locs 98 12032 (lw_Z below #[Value.ref b] s) (F0 m 395 ls []) := by
  obtain ⟨S, hr_, hk_, hX, hbl, hA, hAf⟩ := id C
  have hbA : ¬ A b := fun z => absurd (hAf b z) (Nat.not_le.mpr hbl)
  refine lv_aload_n S.1 S.2.1 dL_law_395 rfl (lv_at hl 2 rfl) ?_
  obtain ⟨fs_, he_⟩ := IX_0 hX_
  refine law_ci (C := RX8) (ci := 8) (As := []) (fX_city l D cI cZ cC cS sq H.size ad fq fim ln sn tz bf lt th k0 k1 g g0 g1 tn tb iz fz  hX_) S gL_law_X8_city rfl hdV_X8_city ⟨Nat.le_of_ble_eq_true rfl, Nat.le_of_ble_eq_true rfl⟩ ⟨Nat.le_of_ble_eq_true rfl, Nat.le_of_ble_eq_true rfl⟩ hK hT hS hA hP hD rfl he_ rfl hl.1 rfl (Nat.le_of_ble_eq_true rfl) dL_law_396 (fun r1 wx H locs hw hP hD hS => ?_)
  obtain ⟨lt1, th1, ga1, hr1, hX_⟩ := hw
  refine lv_pop S.1 S.2.1 dL_law_399 rfl ?_
  refine lv_aload_n S.1 S.2.1 dL_law_400 rfl (lv_at hl 1 rfl) ?_
  obtain ⟨fs_, he_⟩ := IY_0 hY_
  refine law_ci (C := RX9) (ci := 9) (As := []) (fY_city l D cI cZ cC cS sq H.size ay ln sn tz bf lt th k0 k1 g g0 g1 tn tb iz fz  hY_) S gL_law_X9_city rfl hdV_X9_city ⟨Nat.le_of_ble_eq_true rfl, Nat.le_of_ble_eq_true rfl⟩ ⟨Nat.le_of_ble_eq_true rfl, Nat.le_of_ble_eq_true rfl⟩ hK hT hS hA hP hD rfl he_ rfl hl.1 rfl (Nat.le_of_ble_eq_true rfl) dL_law_401 (fun r2 wy H locs hw hP hD hS => ?_)
  obtain ⟨lt2, th2, ga2, hr2, hY_⟩ := hw
  obtain ⟨er, et, eu, eg⟩ := stCity_eq hr1 hr2
  subst et
  subst eu
  subst eg
  refine lv_pop S.1 S.2.1 dL_law_404 rfl ?_
  refine lv_goto (tgt := 1034) S.1 S.2.1 dL_law_405 (by decide) ?_
  exact K ln sn 0 bf lt1 th1 k0 k1 ga1 g0 g1 tn tb iz fz wx wy H _ ls hX_ hY_ hP hD hS hl
set_option maxHeartbeats 4000000 in
set_option maxRecDepth 100000 in
theorem law_fault {p : Program} (l : Launch) {e : Env} {s : State} {m : MethodId} {below : List Frame} {meth : Method} {c : Code} (D : va_G) (cI cZ cC cS : ClassId) (sq : Nat → Nat) {b L : Nat} {sc : Nat → Int32} {A : Nat → Prop} (C : lC p s m meth c b L sc A) (hK : kW D (tyW cI cZ cC cS) sq s) (hT : sT sq A s s.heap) (ad ay : Nat → Nat) (fq fim : Nat → Option Nat) (hL : L ≤ 3072) (i : Int32) (hi : 0 ≤ i.toInt ∧ i.toInt + 6 ≤ L) (K : ∀ (ln sn : Nat → Int32) (tz : Int32) (bf : Nat → Int32) (lt th k0 k1 : Int32) (g g0 g1 : Nat → Int) (tn : Int32) (tb : Nat → Int32) (iz : Nat → Int32) (fz : Int32) (wx wy : va_W) (H : Heap) (locs : List Loc) (ls : Array Slot), IX cI cC cS ad fq fim ln sn tz bf lt th k0 k1 g g0 g1 tn tb iz fz wx → IY cI cZ ay ln sn tz bf lt th k0 k1 g g0 g1 tn tb iz fz wy → va_P D vwCl (wx ++ wy) H → va_D A (wx ++ wy) → va_S A s.heap H locs → lv_has ls 4 [(3, .int i), (2, .ref (ay 0)), (1, .ref (ad 0)), (0, .ref b)] → W p l e room_1 s m #[Value.ref b] below meth c H locs 98 12032 (lw_Z below #[Value.ref b] s) (F0 m 1034 ls [])) {ln sn : Nat → Int32} {tz : Int32} {bf : Nat → Int32} {lt th k0 k1 : Int32} {g g0 g1 : Nat → Int} {tn : Int32} {tb : Nat → Int32} {iz : Nat → Int32} {fz : Int32} {wx wy : va_W} {H : Heap} {locs : List Loc} {ls : Array Slot} (hX_ : IX cI cC cS ad fq fim ln sn tz bf lt th k0 k1 g g0 g1 tn tb iz fz wx) (hY_ : IY cI cZ ay ln sn tz bf lt th k0 k1 g g0 g1 tn tb iz fz wy) (hP : va_P D vwCl (wx ++ wy) H) (hD : va_D A (wx ++ wy)) (hS : va_S A s.heap H locs) (hl : lv_has ls 4 [(3, .int i), (2, .ref (ay 0)), (1, .ref (ad 0)), (0, .ref b)]) : W p l e room_1 s m #[Value.ref b] below meth c H locs 98 12032 (lw_Z below #[Value.ref b] s) (F0 m 408 ls []) := by
  obtain ⟨S, hr_, hk_, hX, hbl, hA, hAf⟩ := id C
  have hbA : ¬ A b := fun z => absurd (hAf b z) (Nat.not_le.mpr hbl)
  refine lv_aload_n S.1 S.2.1 dL_law_408 rfl (lv_at hl 2 rfl) ?_
  obtain ⟨fs_, he_⟩ := IX_0 hX_
  refine law_ci (C := RX8) (ci := 8) (As := []) (fX_fault l D cI cZ cC cS sq H.size ad fq fim ln sn tz bf lt th k0 k1 g g0 g1 tn tb iz fz  hX_) S gL_law_X8_fault rfl hdV_X8_fault ⟨Nat.le_of_ble_eq_true rfl, Nat.le_of_ble_eq_true rfl⟩ ⟨Nat.le_of_ble_eq_true rfl, Nat.le_of_ble_eq_true rfl⟩ hK hT hS hA hP hD rfl he_ rfl hl.1 rfl (Nat.le_of_ble_eq_true rfl) dL_law_409 (fun r1 wx H locs hw hP hD hS => ?_)
  obtain ⟨hr1, hX_⟩ := hw
  refine lv_pop S.1 S.2.1 dL_law_412 rfl ?_
  refine lv_aload_n S.1 S.2.1 dL_law_413 rfl (lv_at hl 1 rfl) ?_
  obtain ⟨fs_, he_⟩ := IY_0 hY_
  refine law_ci (C := RX9) (ci := 9) (As := []) (fY_fault l D cI cZ cC cS sq H.size ay ln sn tz bf lt th k0 k1 g g0 g1 tn tb iz fz  hY_) S gL_law_X9_fault rfl hdV_X9_fault ⟨Nat.le_of_ble_eq_true rfl, Nat.le_of_ble_eq_true rfl⟩ ⟨Nat.le_of_ble_eq_true rfl, Nat.le_of_ble_eq_true rfl⟩ hK hT hS hA hP hD rfl he_ rfl hl.1 rfl (Nat.le_of_ble_eq_true rfl) dL_law_414 (fun r2 wy H locs hw hP hD hS => ?_)
  obtain ⟨hr2, hY_⟩ := hw
  have er := hr1.trans hr2.symm
  refine lv_pop S.1 S.2.1 dL_law_417 rfl ?_
  refine lv_goto (tgt := 1034) S.1 S.2.1 dL_law_418 (by decide) ?_
  exact K ln sn tz bf lt th k0 k1 g g0 g1 tn tb iz fz wx wy H _ ls hX_ hY_ hP hD hS hl
set_option maxHeartbeats 4000000 in
set_option maxRecDepth 100000 in
theorem law_look {p : Program} (l : Launch) {e : Env} {s : State} {m : MethodId} {below : List Frame} {meth : Method} {c : Code} (D : va_G) (cI cZ cC cS : ClassId) (sq : Nat → Nat) {b L : Nat} {sc : Nat → Int32} {A : Nat → Prop} (C : lC p s m meth c b L sc A) (hK : kW D (tyW cI cZ cC cS) sq s) (hT : sT sq A s s.heap) (ad ay : Nat → Nat) (fq fim : Nat → Option Nat) (hL : L ≤ 3072) (i : Int32) (hi : 0 ≤ i.toInt ∧ i.toInt + 6 ≤ L) (K : ∀ (ln sn : Nat → Int32) (tz : Int32) (bf : Nat → Int32) (lt th k0 k1 : Int32) (g g0 g1 : Nat → Int) (tn : Int32) (tb : Nat → Int32) (iz : Nat → Int32) (fz : Int32) (wx wy : va_W) (H : Heap) (locs : List Loc) (ls : Array Slot), IX cI cC cS ad fq fim ln sn tz bf lt th k0 k1 g g0 g1 tn tb iz fz wx → IY cI cZ ay ln sn tz bf lt th k0 k1 g g0 g1 tn tb iz fz wy → va_P D vwCl (wx ++ wy) H → va_D A (wx ++ wy) → va_S A s.heap H locs → lv_has ls 4 [(3, .int i), (2, .ref (ay 0)), (1, .ref (ad 0)), (0, .ref b)] → W p l e room_1 s m #[Value.ref b] below meth c H locs 98 12032 (lw_Z below #[Value.ref b] s) (F0 m 1034 ls [])) {ln sn : Nat → Int32} {tz : Int32} {bf : Nat → Int32} {lt th k0 k1 : Int32} {g g0 g1 : Nat → Int} {tn : Int32} {tb : Nat → Int32} {iz : Nat → Int32} {fz : Int32} {wx wy : va_W} {H : Heap} {locs : List Loc} {ls : Array Slot} (hX_ : IX cI cC cS ad fq fim ln sn tz bf lt th k0 k1 g g0 g1 tn tb iz fz wx) (hY_ : IY cI cZ ay ln sn tz bf lt th k0 k1 g g0 g1 tn tb iz fz wy) (hP : va_P D vwCl (wx ++ wy) H) (hD : va_D A (wx ++ wy)) (hS : va_S A s.heap H locs) (hl : lv_has ls 4 [(3, .int i), (2, .ref (ay 0)), (1, .ref (ad 0)), (0, .ref b)]) : W p l e room_1 s m #[Value.ref b] below meth c H locs 98 12032 (lw_Z below #[Value.ref b] s) (F0 m 421 ls []) := by
  obtain ⟨S, hr_, hk_, hX, hbl, hA, hAf⟩ := id C
  have hbA : ¬ A b := fun z => absurd (hAf b z) (Nat.not_le.mpr hbl)
  refine lv_aload_n S.1 S.2.1 dL_law_421 rfl (lv_at hl 2 rfl) ?_
  refine lv_aload_n S.1 S.2.1 dL_law_422 rfl (lv_at hl 3 rfl) ?_
  refine lv_iload_n S.1 S.2.1 dL_law_423 rfl (lv_at hl 0 rfl) ?_
  refine lv_iconst (v := (1)) S.1 S.2.1 dL_law_424 (by decide) ?_
  refine lv_iadd S.1 S.2.1 dL_law_425 ?_
  refine lv_topi (fun x_1 ex_1 => ?_)
  have tx_1 : x_1.toInt = i.toInt + (1) := addI (A := i.toInt) (B := 1) ex_1 rfl rfl (by omega) (by omega)
  refine va_sld S.1 S.2.1 hX hbl hbA hS (in_of (by omega) (by omega)) dL_law_426 ?_
  refine lv_topi (fun v_2 ev_2 => ?_)
  refine lv_aload_n S.1 S.2.1 dL_law_427 rfl (lv_at hl 3 rfl) ?_
  refine lv_iload_n S.1 S.2.1 dL_law_428 rfl (lv_at hl 0 rfl) ?_
  refine lv_iconst (v := (2)) S.1 S.2.1 dL_law_429 (by decide) ?_
  refine lv_iadd S.1 S.2.1 dL_law_430 ?_
  refine lv_topi (fun x_3 ex_3 => ?_)
  have tx_3 : x_3.toInt = i.toInt + (2) := addI (A := i.toInt) (B := 2) ex_3 rfl rfl (by omega) (by omega)
  refine va_sld S.1 S.2.1 hX hbl hbA hS (in_of (by omega) (by omega)) dL_law_431 ?_
  refine lv_topi (fun v_4 ev_4 => ?_)
  refine lv_aload_n S.1 S.2.1 dL_law_432 rfl (lv_at hl 3 rfl) ?_
  refine lv_iload_n S.1 S.2.1 dL_law_433 rfl (lv_at hl 0 rfl) ?_
  refine lv_iconst (v := (3)) S.1 S.2.1 dL_law_434 (by decide) ?_
  refine lv_iadd S.1 S.2.1 dL_law_435 ?_
  refine lv_topi (fun x_5 ex_5 => ?_)
  have tx_5 : x_5.toInt = i.toInt + (3) := addI (A := i.toInt) (B := 3) ex_5 rfl rfl (by omega) (by omega)
  refine va_sld S.1 S.2.1 hX hbl hbA hS (in_of (by omega) (by omega)) dL_law_436 ?_
  refine lv_topi (fun v_6 ev_6 => ?_)
  obtain ⟨fs_, he_⟩ := IX_0 hX_
  refine law_ci (C := RX8) (ci := 8) (As := [.int v_2, .int v_4, .int v_6]) (fX_look l D cI cZ cC cS sq H.size ad fq fim ln sn tz bf lt th k0 k1 g g0 g1 tn tb iz fz v_2 v_4 v_6 (IY_g hY_) (IY_p hY_) hX_) S gL_law_X8_look rfl hdV_X8_look ⟨Nat.le_of_ble_eq_true rfl, Nat.le_of_ble_eq_true rfl⟩ ⟨Nat.le_of_ble_eq_true rfl, Nat.le_of_ble_eq_true rfl⟩ hK hT hS hA hP hD rfl he_ rfl hl.1 rfl (Nat.le_of_ble_eq_true rfl) dL_law_437 (fun r1 wx H locs hw hP hD hS => ?_)
  obtain ⟨hr1, hX_⟩ := hw
  refine lv_pop S.1 S.2.1 dL_law_440 rfl ?_
  refine lv_aload_n S.1 S.2.1 dL_law_441 rfl (lv_at hl 1 rfl) ?_
  refine lv_aload_n S.1 S.2.1 dL_law_442 rfl (lv_at hl 3 rfl) ?_
  refine lv_iload_n S.1 S.2.1 dL_law_443 rfl (lv_at hl 0 rfl) ?_
  refine lv_iconst (v := (1)) S.1 S.2.1 dL_law_444 (by decide) ?_
  refine lv_iadd S.1 S.2.1 dL_law_445 ?_
  refine lv_topi (fun x_7 ex_7 => ?_)
  have qx_7 : x_1 = x_7 := ex_1.trans ex_7.symm
  subst qx_7
  refine va_sld S.1 S.2.1 hX hbl hbA hS (in_of (by omega) (by omega)) dL_law_446 ?_
  refine lv_topi (fun v_8 ev_8 => ?_)
  have qv_8 : v_2 = v_8 := ev_2.trans ev_8.symm
  subst qv_8
  refine lv_aload_n S.1 S.2.1 dL_law_447 rfl (lv_at hl 3 rfl) ?_
  refine lv_iload_n S.1 S.2.1 dL_law_448 rfl (lv_at hl 0 rfl) ?_
  refine lv_iconst (v := (2)) S.1 S.2.1 dL_law_449 (by decide) ?_
  refine lv_iadd S.1 S.2.1 dL_law_450 ?_
  refine lv_topi (fun x_9 ex_9 => ?_)
  have qx_9 : x_3 = x_9 := ex_3.trans ex_9.symm
  subst qx_9
  refine va_sld S.1 S.2.1 hX hbl hbA hS (in_of (by omega) (by omega)) dL_law_451 ?_
  refine lv_topi (fun v_10 ev_10 => ?_)
  have qv_10 : v_4 = v_10 := ev_4.trans ev_10.symm
  subst qv_10
  refine lv_aload_n S.1 S.2.1 dL_law_452 rfl (lv_at hl 3 rfl) ?_
  refine lv_iload_n S.1 S.2.1 dL_law_453 rfl (lv_at hl 0 rfl) ?_
  refine lv_iconst (v := (3)) S.1 S.2.1 dL_law_454 (by decide) ?_
  refine lv_iadd S.1 S.2.1 dL_law_455 ?_
  refine lv_topi (fun x_11 ex_11 => ?_)
  have qx_11 : x_5 = x_11 := ex_5.trans ex_11.symm
  subst qx_11
  refine va_sld S.1 S.2.1 hX hbl hbA hS (in_of (by omega) (by omega)) dL_law_456 ?_
  refine lv_topi (fun v_12 ev_12 => ?_)
  have qv_12 : v_6 = v_12 := ev_6.trans ev_12.symm
  subst qv_12
  obtain ⟨fs_, he_⟩ := IY_0 hY_
  refine law_ci (C := RX9) (ci := 9) (As := [.int v_2, .int v_4, .int v_6]) (fY_look l D cI cZ cC cS sq H.size ay ln sn tz bf lt th k0 k1 g g0 g1 tn tb iz fz v_2 v_4 v_6 hY_) S gL_law_X9_look rfl hdV_X9_look ⟨Nat.le_of_ble_eq_true rfl, Nat.le_of_ble_eq_true rfl⟩ ⟨Nat.le_of_ble_eq_true rfl, Nat.le_of_ble_eq_true rfl⟩ hK hT hS hA hP hD rfl he_ rfl hl.1 rfl (Nat.le_of_ble_eq_true rfl) dL_law_457 (fun r2 wy H locs hw hP hD hS => ?_)
  obtain ⟨hr2, hY_⟩ := hw
  have er := stLook_eq hr1 hr2
  refine lv_pop S.1 S.2.1 dL_law_460 rfl ?_
  refine lv_goto (tgt := 1034) S.1 S.2.1 dL_law_461 (by decide) ?_
  exact K ln sn tz bf lt th k0 k1 g g0 g1 tn tb iz fz wx wy H _ ls hX_ hY_ hP hD hS hl
set_option maxHeartbeats 4000000 in
set_option maxRecDepth 100000 in
theorem law_price {p : Program} (l : Launch) {e : Env} {s : State} {m : MethodId} {below : List Frame} {meth : Method} {c : Code} (D : va_G) (cI cZ cC cS : ClassId) (sq : Nat → Nat) {b L : Nat} {sc : Nat → Int32} {A : Nat → Prop} (C : lC p s m meth c b L sc A) (hK : kW D (tyW cI cZ cC cS) sq s) (hT : sT sq A s s.heap) (ad ay : Nat → Nat) (fq fim : Nat → Option Nat) (hL : L ≤ 3072) (i : Int32) (hi : 0 ≤ i.toInt ∧ i.toInt + 6 ≤ L) (K : ∀ (ln sn : Nat → Int32) (tz : Int32) (bf : Nat → Int32) (lt th k0 k1 : Int32) (g g0 g1 : Nat → Int) (tn : Int32) (tb : Nat → Int32) (iz : Nat → Int32) (fz : Int32) (wx wy : va_W) (H : Heap) (locs : List Loc) (ls : Array Slot), IX cI cC cS ad fq fim ln sn tz bf lt th k0 k1 g g0 g1 tn tb iz fz wx → IY cI cZ ay ln sn tz bf lt th k0 k1 g g0 g1 tn tb iz fz wy → va_P D vwCl (wx ++ wy) H → va_D A (wx ++ wy) → va_S A s.heap H locs → lv_has ls 4 [(3, .int i), (2, .ref (ay 0)), (1, .ref (ad 0)), (0, .ref b)] → W p l e room_1 s m #[Value.ref b] below meth c H locs 98 12032 (lw_Z below #[Value.ref b] s) (F0 m 1034 ls [])) {ln sn : Nat → Int32} {tz : Int32} {bf : Nat → Int32} {lt th k0 k1 : Int32} {g g0 g1 : Nat → Int} {tn : Int32} {tb : Nat → Int32} {iz : Nat → Int32} {fz : Int32} {wx wy : va_W} {H : Heap} {locs : List Loc} {ls : Array Slot} (hX_ : IX cI cC cS ad fq fim ln sn tz bf lt th k0 k1 g g0 g1 tn tb iz fz wx) (hY_ : IY cI cZ ay ln sn tz bf lt th k0 k1 g g0 g1 tn tb iz fz wy) (hP : va_P D vwCl (wx ++ wy) H) (hD : va_D A (wx ++ wy)) (hS : va_S A s.heap H locs) (hl : lv_has ls 4 [(3, .int i), (2, .ref (ay 0)), (1, .ref (ad 0)), (0, .ref b)]) : W p l e room_1 s m #[Value.ref b] below meth c H locs 98 12032 (lw_Z below #[Value.ref b] s) (F0 m 464 ls []) := by
  obtain ⟨S, hr_, hk_, hX, hbl, hA, hAf⟩ := id C
  have hbA : ¬ A b := fun z => absurd (hAf b z) (Nat.not_le.mpr hbl)
  refine lv_aload_n S.1 S.2.1 dL_law_464 rfl (lv_at hl 2 rfl) ?_
  refine lv_aload_n S.1 S.2.1 dL_law_465 rfl (lv_at hl 3 rfl) ?_
  refine lv_iload_n S.1 S.2.1 dL_law_466 rfl (lv_at hl 0 rfl) ?_
  refine lv_iconst (v := (1)) S.1 S.2.1 dL_law_467 (by decide) ?_
  refine lv_iadd S.1 S.2.1 dL_law_468 ?_
  refine lv_topi (fun x_1 ex_1 => ?_)
  have tx_1 : x_1.toInt = i.toInt + (1) := addI (A := i.toInt) (B := 1) ex_1 rfl rfl (by omega) (by omega)
  refine va_sld S.1 S.2.1 hX hbl hbA hS (in_of (by omega) (by omega)) dL_law_469 ?_
  refine lv_topi (fun v_2 ev_2 => ?_)
  refine lv_aload_n S.1 S.2.1 dL_law_470 rfl (lv_at hl 3 rfl) ?_
  refine lv_iload_n S.1 S.2.1 dL_law_471 rfl (lv_at hl 0 rfl) ?_
  refine lv_iconst (v := (2)) S.1 S.2.1 dL_law_472 (by decide) ?_
  refine lv_iadd S.1 S.2.1 dL_law_473 ?_
  refine lv_topi (fun x_3 ex_3 => ?_)
  have tx_3 : x_3.toInt = i.toInt + (2) := addI (A := i.toInt) (B := 2) ex_3 rfl rfl (by omega) (by omega)
  refine va_sld S.1 S.2.1 hX hbl hbA hS (in_of (by omega) (by omega)) dL_law_474 ?_
  refine lv_topi (fun v_4 ev_4 => ?_)
  obtain ⟨fs_, he_⟩ := IX_0 hX_
  refine law_ci (C := RX8) (ci := 8) (As := [.int v_2, .int v_4]) (fX_price l D cI cZ cC cS sq H.size ad fq fim ln sn tz bf lt th k0 k1 g g0 g1 tn tb iz fz v_2 v_4 (IY_g hY_) (IY_p hY_) hX_) S gL_law_X8_price rfl hdV_X8_price ⟨Nat.le_of_ble_eq_true rfl, Nat.le_of_ble_eq_true rfl⟩ ⟨Nat.le_of_ble_eq_true rfl, Nat.le_of_ble_eq_true rfl⟩ hK hT hS hA hP hD rfl he_ rfl hl.1 rfl (Nat.le_of_ble_eq_true rfl) dL_law_475 (fun r1 wx H locs hw hP hD hS => ?_)
  obtain ⟨ga1, hr1, hX_⟩ := hw
  refine lv_pop S.1 S.2.1 dL_law_478 rfl ?_
  refine lv_aload_n S.1 S.2.1 dL_law_479 rfl (lv_at hl 1 rfl) ?_
  refine lv_aload_n S.1 S.2.1 dL_law_480 rfl (lv_at hl 3 rfl) ?_
  refine lv_iload_n S.1 S.2.1 dL_law_481 rfl (lv_at hl 0 rfl) ?_
  refine lv_iconst (v := (1)) S.1 S.2.1 dL_law_482 (by decide) ?_
  refine lv_iadd S.1 S.2.1 dL_law_483 ?_
  refine lv_topi (fun x_5 ex_5 => ?_)
  have qx_5 : x_1 = x_5 := ex_1.trans ex_5.symm
  subst qx_5
  refine va_sld S.1 S.2.1 hX hbl hbA hS (in_of (by omega) (by omega)) dL_law_484 ?_
  refine lv_topi (fun v_6 ev_6 => ?_)
  have qv_6 : v_2 = v_6 := ev_2.trans ev_6.symm
  subst qv_6
  refine lv_aload_n S.1 S.2.1 dL_law_485 rfl (lv_at hl 3 rfl) ?_
  refine lv_iload_n S.1 S.2.1 dL_law_486 rfl (lv_at hl 0 rfl) ?_
  refine lv_iconst (v := (2)) S.1 S.2.1 dL_law_487 (by decide) ?_
  refine lv_iadd S.1 S.2.1 dL_law_488 ?_
  refine lv_topi (fun x_7 ex_7 => ?_)
  have qx_7 : x_3 = x_7 := ex_3.trans ex_7.symm
  subst qx_7
  refine va_sld S.1 S.2.1 hX hbl hbA hS (in_of (by omega) (by omega)) dL_law_489 ?_
  refine lv_topi (fun v_8 ev_8 => ?_)
  have qv_8 : v_4 = v_8 := ev_4.trans ev_8.symm
  subst qv_8
  obtain ⟨fs_, he_⟩ := IY_0 hY_
  refine law_ci (C := RX9) (ci := 9) (As := [.int v_2, .int v_4]) (fY_price l D cI cZ cC cS sq H.size ay ln sn tz bf lt th k0 k1 g g0 g1 tn tb iz fz v_2 v_4 hY_) S gL_law_X9_price rfl hdV_X9_price ⟨Nat.le_of_ble_eq_true rfl, Nat.le_of_ble_eq_true rfl⟩ ⟨Nat.le_of_ble_eq_true rfl, Nat.le_of_ble_eq_true rfl⟩ hK hT hS hA hP hD rfl he_ rfl hl.1 rfl (Nat.le_of_ble_eq_true rfl) dL_law_490 (fun r2 wy H locs hw hP hD hS => ?_)
  obtain ⟨ga2, hr2, hY_⟩ := hw
  obtain ⟨er, eg⟩ := stPrice_eq hr1 hr2
  subst eg
  refine lv_pop S.1 S.2.1 dL_law_493 rfl ?_
  refine lv_goto (tgt := 1034) S.1 S.2.1 dL_law_494 (by decide) ?_
  exact K ln sn tz bf lt th k0 k1 ga1 g0 g1 tn tb iz fz wx wy H _ ls hX_ hY_ hP hD hS hl
set_option maxHeartbeats 4000000 in
set_option maxRecDepth 100000 in
theorem law_step {p : Program} (l : Launch) {e : Env} {s : State} {m : MethodId} {below : List Frame} {meth : Method} {c : Code} (D : va_G) (cI cZ cC cS : ClassId) (sq : Nat → Nat) {b L : Nat} {sc : Nat → Int32} {A : Nat → Prop} (C : lC p s m meth c b L sc A) (hK : kW D (tyW cI cZ cC cS) sq s) (hT : sT sq A s s.heap) (ad ay : Nat → Nat) (fq fim : Nat → Option Nat) (hL : L ≤ 3072) (i : Int32) (hi : 0 ≤ i.toInt ∧ i.toInt + 6 ≤ L) (K : ∀ (ln sn : Nat → Int32) (tz : Int32) (bf : Nat → Int32) (lt th k0 k1 : Int32) (g g0 g1 : Nat → Int) (tn : Int32) (tb : Nat → Int32) (iz : Nat → Int32) (fz : Int32) (wx wy : va_W) (H : Heap) (locs : List Loc) (ls : Array Slot), IX cI cC cS ad fq fim ln sn tz bf lt th k0 k1 g g0 g1 tn tb iz fz wx → IY cI cZ ay ln sn tz bf lt th k0 k1 g g0 g1 tn tb iz fz wy → va_P D vwCl (wx ++ wy) H → va_D A (wx ++ wy) → va_S A s.heap H locs → lv_has ls 4 [(3, .int i), (2, .ref (ay 0)), (1, .ref (ad 0)), (0, .ref b)] → W p l e room_1 s m #[Value.ref b] below meth c H locs 98 12032 (lw_Z below #[Value.ref b] s) (F0 m 1034 ls [])) {ln sn : Nat → Int32} {tz : Int32} {bf : Nat → Int32} {lt th k0 k1 : Int32} {g g0 g1 : Nat → Int} {tn : Int32} {tb : Nat → Int32} {iz : Nat → Int32} {fz : Int32} {wx wy : va_W} {H : Heap} {locs : List Loc} {ls : Array Slot} (hX_ : IX cI cC cS ad fq fim ln sn tz bf lt th k0 k1 g g0 g1 tn tb iz fz wx) (hY_ : IY cI cZ ay ln sn tz bf lt th k0 k1 g g0 g1 tn tb iz fz wy) (hP : va_P D vwCl (wx ++ wy) H) (hD : va_D A (wx ++ wy)) (hS : va_S A s.heap H locs) (hl : lv_has ls 4 [(3, .int i), (2, .ref (ay 0)), (1, .ref (ad 0)), (0, .ref b)]) : W p l e room_1 s m #[Value.ref b] below meth c H locs 98 12032 (lw_Z below #[Value.ref b] s) (F0 m 497 ls []) := by
  obtain ⟨S, hr_, hk_, hX, hbl, hA, hAf⟩ := id C
  have hbA : ¬ A b := fun z => absurd (hAf b z) (Nat.not_le.mpr hbl)
  refine lv_aload_n S.1 S.2.1 dL_law_497 rfl (lv_at hl 2 rfl) ?_
  refine lv_aload_n S.1 S.2.1 dL_law_498 rfl (lv_at hl 3 rfl) ?_
  refine lv_iload_n S.1 S.2.1 dL_law_499 rfl (lv_at hl 0 rfl) ?_
  refine lv_iconst (v := (1)) S.1 S.2.1 dL_law_500 (by decide) ?_
  refine lv_iadd S.1 S.2.1 dL_law_501 ?_
  refine lv_topi (fun x_1 ex_1 => ?_)
  have tx_1 : x_1.toInt = i.toInt + (1) := addI (A := i.toInt) (B := 1) ex_1 rfl rfl (by omega) (by omega)
  refine va_sld S.1 S.2.1 hX hbl hbA hS (in_of (by omega) (by omega)) dL_law_502 ?_
  refine lv_topi (fun v_2 ev_2 => ?_)
  refine lv_aload_n S.1 S.2.1 dL_law_503 rfl (lv_at hl 3 rfl) ?_
  refine lv_iload_n S.1 S.2.1 dL_law_504 rfl (lv_at hl 0 rfl) ?_
  refine lv_iconst (v := (2)) S.1 S.2.1 dL_law_505 (by decide) ?_
  refine lv_iadd S.1 S.2.1 dL_law_506 ?_
  refine lv_topi (fun x_3 ex_3 => ?_)
  have tx_3 : x_3.toInt = i.toInt + (2) := addI (A := i.toInt) (B := 2) ex_3 rfl rfl (by omega) (by omega)
  refine va_sld S.1 S.2.1 hX hbl hbA hS (in_of (by omega) (by omega)) dL_law_507 ?_
  refine lv_topi (fun v_4 ev_4 => ?_)
  obtain ⟨fs_, he_⟩ := IX_0 hX_
  refine law_ci (C := RX8) (ci := 8) (As := [.int v_2, .int v_4]) (fX_step l D cI cZ cC cS sq H.size ad fq fim ln sn tz bf lt th k0 k1 g g0 g1 tn tb iz fz v_2 v_4 (IY_g hY_) (IY_p hY_) hX_) S gL_law_X8_step rfl hdV_X8_step ⟨Nat.le_of_ble_eq_true rfl, Nat.le_of_ble_eq_true rfl⟩ ⟨Nat.le_of_ble_eq_true rfl, Nat.le_of_ble_eq_true rfl⟩ hK hT hS hA hP hD rfl he_ rfl hl.1 rfl (Nat.le_of_ble_eq_true rfl) dL_law_508 (fun r1 wx H locs hw hP hD hS => ?_)
  obtain ⟨ga1, hr1, hX_⟩ := hw
  refine lv_pop S.1 S.2.1 dL_law_511 rfl ?_
  refine lv_aload_n S.1 S.2.1 dL_law_512 rfl (lv_at hl 1 rfl) ?_
  refine lv_aload_n S.1 S.2.1 dL_law_513 rfl (lv_at hl 3 rfl) ?_
  refine lv_iload_n S.1 S.2.1 dL_law_514 rfl (lv_at hl 0 rfl) ?_
  refine lv_iconst (v := (1)) S.1 S.2.1 dL_law_515 (by decide) ?_
  refine lv_iadd S.1 S.2.1 dL_law_516 ?_
  refine lv_topi (fun x_5 ex_5 => ?_)
  have qx_5 : x_1 = x_5 := ex_1.trans ex_5.symm
  subst qx_5
  refine va_sld S.1 S.2.1 hX hbl hbA hS (in_of (by omega) (by omega)) dL_law_517 ?_
  refine lv_topi (fun v_6 ev_6 => ?_)
  have qv_6 : v_2 = v_6 := ev_2.trans ev_6.symm
  subst qv_6
  refine lv_aload_n S.1 S.2.1 dL_law_518 rfl (lv_at hl 3 rfl) ?_
  refine lv_iload_n S.1 S.2.1 dL_law_519 rfl (lv_at hl 0 rfl) ?_
  refine lv_iconst (v := (2)) S.1 S.2.1 dL_law_520 (by decide) ?_
  refine lv_iadd S.1 S.2.1 dL_law_521 ?_
  refine lv_topi (fun x_7 ex_7 => ?_)
  have qx_7 : x_3 = x_7 := ex_3.trans ex_7.symm
  subst qx_7
  refine va_sld S.1 S.2.1 hX hbl hbA hS (in_of (by omega) (by omega)) dL_law_522 ?_
  refine lv_topi (fun v_8 ev_8 => ?_)
  have qv_8 : v_4 = v_8 := ev_4.trans ev_8.symm
  subst qv_8
  obtain ⟨fs_, he_⟩ := IY_0 hY_
  refine law_ci (C := RX9) (ci := 9) (As := [.int v_2, .int v_4]) (fY_step l D cI cZ cC cS sq H.size ay ln sn tz bf lt th k0 k1 g g0 g1 tn tb iz fz v_2 v_4 hY_) S gL_law_X9_step rfl hdV_X9_step ⟨Nat.le_of_ble_eq_true rfl, Nat.le_of_ble_eq_true rfl⟩ ⟨Nat.le_of_ble_eq_true rfl, Nat.le_of_ble_eq_true rfl⟩ hK hT hS hA hP hD rfl he_ rfl hl.1 rfl (Nat.le_of_ble_eq_true rfl) dL_law_523 (fun r2 wy H locs hw hP hD hS => ?_)
  obtain ⟨ga2, hr2, hY_⟩ := hw
  obtain ⟨er, eg⟩ := stStep_eq hr1 hr2
  subst eg
  refine lv_pop S.1 S.2.1 dL_law_526 rfl ?_
  refine lv_goto (tgt := 1034) S.1 S.2.1 dL_law_527 (by decide) ?_
  exact K ln sn tz bf lt th k0 k1 ga1 g0 g1 tn tb iz fz wx wy H _ ls hX_ hY_ hP hD hS hl
set_option maxHeartbeats 4000000 in
set_option maxRecDepth 100000 in
theorem law_walk {p : Program} (l : Launch) {e : Env} {s : State} {m : MethodId} {below : List Frame} {meth : Method} {c : Code} (D : va_G) (cI cZ cC cS : ClassId) (sq : Nat → Nat) {b L : Nat} {sc : Nat → Int32} {A : Nat → Prop} (C : lC p s m meth c b L sc A) (hK : kW D (tyW cI cZ cC cS) sq s) (hT : sT sq A s s.heap) (ad ay : Nat → Nat) (fq fim : Nat → Option Nat) (hL : L ≤ 3072) (i : Int32) (hi : 0 ≤ i.toInt ∧ i.toInt + 6 ≤ L) (K : ∀ (ln sn : Nat → Int32) (tz : Int32) (bf : Nat → Int32) (lt th k0 k1 : Int32) (g g0 g1 : Nat → Int) (tn : Int32) (tb : Nat → Int32) (iz : Nat → Int32) (fz : Int32) (wx wy : va_W) (H : Heap) (locs : List Loc) (ls : Array Slot), IX cI cC cS ad fq fim ln sn tz bf lt th k0 k1 g g0 g1 tn tb iz fz wx → IY cI cZ ay ln sn tz bf lt th k0 k1 g g0 g1 tn tb iz fz wy → va_P D vwCl (wx ++ wy) H → va_D A (wx ++ wy) → va_S A s.heap H locs → lv_has ls 4 [(3, .int i), (2, .ref (ay 0)), (1, .ref (ad 0)), (0, .ref b)] → W p l e room_1 s m #[Value.ref b] below meth c H locs 98 12032 (lw_Z below #[Value.ref b] s) (F0 m 1034 ls [])) {ln sn : Nat → Int32} {tz : Int32} {bf : Nat → Int32} {lt th k0 k1 : Int32} {g g0 g1 : Nat → Int} {tn : Int32} {tb : Nat → Int32} {iz : Nat → Int32} {fz : Int32} {wx wy : va_W} {H : Heap} {locs : List Loc} {ls : Array Slot} (hX_ : IX cI cC cS ad fq fim ln sn tz bf lt th k0 k1 g g0 g1 tn tb iz fz wx) (hY_ : IY cI cZ ay ln sn tz bf lt th k0 k1 g g0 g1 tn tb iz fz wy) (hP : va_P D vwCl (wx ++ wy) H) (hD : va_D A (wx ++ wy)) (hS : va_S A s.heap H locs) (hl : lv_has ls 4 [(3, .int i), (2, .ref (ay 0)), (1, .ref (ad 0)), (0, .ref b)]) : W p l e room_1 s m #[Value.ref b] below meth c H locs 98 12032 (lw_Z below #[Value.ref b] s) (F0 m 530 ls []) := by
  obtain ⟨S, hr_, hk_, hX, hbl, hA, hAf⟩ := id C
  have hbA : ¬ A b := fun z => absurd (hAf b z) (Nat.not_le.mpr hbl)
  refine lv_aload_n S.1 S.2.1 dL_law_530 rfl (lv_at hl 2 rfl) ?_
  refine lv_aload_n S.1 S.2.1 dL_law_531 rfl (lv_at hl 3 rfl) ?_
  refine lv_iload_n S.1 S.2.1 dL_law_532 rfl (lv_at hl 0 rfl) ?_
  refine lv_iconst (v := (1)) S.1 S.2.1 dL_law_533 (by decide) ?_
  refine lv_iadd S.1 S.2.1 dL_law_534 ?_
  refine lv_topi (fun x_1 ex_1 => ?_)
  have tx_1 : x_1.toInt = i.toInt + (1) := addI (A := i.toInt) (B := 1) ex_1 rfl rfl (by omega) (by omega)
  refine va_sld S.1 S.2.1 hX hbl hbA hS (in_of (by omega) (by omega)) dL_law_535 ?_
  refine lv_topi (fun v_2 ev_2 => ?_)
  refine lv_aload_n S.1 S.2.1 dL_law_536 rfl (lv_at hl 3 rfl) ?_
  refine lv_iload_n S.1 S.2.1 dL_law_537 rfl (lv_at hl 0 rfl) ?_
  refine lv_iconst (v := (2)) S.1 S.2.1 dL_law_538 (by decide) ?_
  refine lv_iadd S.1 S.2.1 dL_law_539 ?_
  refine lv_topi (fun x_3 ex_3 => ?_)
  have tx_3 : x_3.toInt = i.toInt + (2) := addI (A := i.toInt) (B := 2) ex_3 rfl rfl (by omega) (by omega)
  refine va_sld S.1 S.2.1 hX hbl hbA hS (in_of (by omega) (by omega)) dL_law_540 ?_
  refine lv_topi (fun v_4 ev_4 => ?_)
  refine lv_aload_n S.1 S.2.1 dL_law_541 rfl (lv_at hl 3 rfl) ?_
  refine lv_iload_n S.1 S.2.1 dL_law_542 rfl (lv_at hl 0 rfl) ?_
  refine lv_iconst (v := (3)) S.1 S.2.1 dL_law_543 (by decide) ?_
  refine lv_iadd S.1 S.2.1 dL_law_544 ?_
  refine lv_topi (fun x_5 ex_5 => ?_)
  have tx_5 : x_5.toInt = i.toInt + (3) := addI (A := i.toInt) (B := 3) ex_5 rfl rfl (by omega) (by omega)
  refine va_sld S.1 S.2.1 hX hbl hbA hS (in_of (by omega) (by omega)) dL_law_545 ?_
  refine lv_topi (fun v_6 ev_6 => ?_)
  refine lv_aload_n S.1 S.2.1 dL_law_546 rfl (lv_at hl 3 rfl) ?_
  refine lv_iload_n S.1 S.2.1 dL_law_547 rfl (lv_at hl 0 rfl) ?_
  refine lv_iconst (v := (4)) S.1 S.2.1 dL_law_548 (by decide) ?_
  refine lv_iadd S.1 S.2.1 dL_law_549 ?_
  refine lv_topi (fun x_7 ex_7 => ?_)
  have tx_7 : x_7.toInt = i.toInt + (4) := addI (A := i.toInt) (B := 4) ex_7 rfl rfl (by omega) (by omega)
  refine va_sld S.1 S.2.1 hX hbl hbA hS (in_of (by omega) (by omega)) dL_law_550 ?_
  refine lv_topi (fun v_8 ev_8 => ?_)
  obtain ⟨fs_, he_⟩ := IX_0 hX_
  refine law_ci (C := RX8) (ci := 8) (As := [.int v_2, .int v_4, .int v_6, .int v_8]) (fX_walk l D cI cZ cC cS sq H.size ad fq fim ln sn tz bf lt th k0 k1 g g0 g1 tn tb iz fz v_2 v_4 v_6 v_8 (IY_g hY_) (IY_p hY_) hX_) S gL_law_X8_walk rfl hdV_X8_walk ⟨Nat.le_of_ble_eq_true rfl, Nat.le_of_ble_eq_true rfl⟩ ⟨Nat.le_of_ble_eq_true rfl, Nat.le_of_ble_eq_true rfl⟩ hK hT hS hA hP hD rfl he_ rfl hl.1 rfl (Nat.le_of_ble_eq_true rfl) dL_law_551 (fun r1 wx H locs hw hP hD hS => ?_)
  obtain ⟨ga1, fz1, hr1, hX_⟩ := hw
  refine lv_pop S.1 S.2.1 dL_law_554 rfl ?_
  refine lv_aload_n S.1 S.2.1 dL_law_555 rfl (lv_at hl 1 rfl) ?_
  refine lv_aload_n S.1 S.2.1 dL_law_556 rfl (lv_at hl 3 rfl) ?_
  refine lv_iload_n S.1 S.2.1 dL_law_557 rfl (lv_at hl 0 rfl) ?_
  refine lv_iconst (v := (1)) S.1 S.2.1 dL_law_558 (by decide) ?_
  refine lv_iadd S.1 S.2.1 dL_law_559 ?_
  refine lv_topi (fun x_9 ex_9 => ?_)
  have qx_9 : x_1 = x_9 := ex_1.trans ex_9.symm
  subst qx_9
  refine va_sld S.1 S.2.1 hX hbl hbA hS (in_of (by omega) (by omega)) dL_law_560 ?_
  refine lv_topi (fun v_10 ev_10 => ?_)
  have qv_10 : v_2 = v_10 := ev_2.trans ev_10.symm
  subst qv_10
  refine lv_aload_n S.1 S.2.1 dL_law_561 rfl (lv_at hl 3 rfl) ?_
  refine lv_iload_n S.1 S.2.1 dL_law_562 rfl (lv_at hl 0 rfl) ?_
  refine lv_iconst (v := (2)) S.1 S.2.1 dL_law_563 (by decide) ?_
  refine lv_iadd S.1 S.2.1 dL_law_564 ?_
  refine lv_topi (fun x_11 ex_11 => ?_)
  have qx_11 : x_3 = x_11 := ex_3.trans ex_11.symm
  subst qx_11
  refine va_sld S.1 S.2.1 hX hbl hbA hS (in_of (by omega) (by omega)) dL_law_565 ?_
  refine lv_topi (fun v_12 ev_12 => ?_)
  have qv_12 : v_4 = v_12 := ev_4.trans ev_12.symm
  subst qv_12
  refine lv_aload_n S.1 S.2.1 dL_law_566 rfl (lv_at hl 3 rfl) ?_
  refine lv_iload_n S.1 S.2.1 dL_law_567 rfl (lv_at hl 0 rfl) ?_
  refine lv_iconst (v := (3)) S.1 S.2.1 dL_law_568 (by decide) ?_
  refine lv_iadd S.1 S.2.1 dL_law_569 ?_
  refine lv_topi (fun x_13 ex_13 => ?_)
  have qx_13 : x_5 = x_13 := ex_5.trans ex_13.symm
  subst qx_13
  refine va_sld S.1 S.2.1 hX hbl hbA hS (in_of (by omega) (by omega)) dL_law_570 ?_
  refine lv_topi (fun v_14 ev_14 => ?_)
  have qv_14 : v_6 = v_14 := ev_6.trans ev_14.symm
  subst qv_14
  refine lv_aload_n S.1 S.2.1 dL_law_571 rfl (lv_at hl 3 rfl) ?_
  refine lv_iload_n S.1 S.2.1 dL_law_572 rfl (lv_at hl 0 rfl) ?_
  refine lv_iconst (v := (4)) S.1 S.2.1 dL_law_573 (by decide) ?_
  refine lv_iadd S.1 S.2.1 dL_law_574 ?_
  refine lv_topi (fun x_15 ex_15 => ?_)
  have qx_15 : x_7 = x_15 := ex_7.trans ex_15.symm
  subst qx_15
  refine va_sld S.1 S.2.1 hX hbl hbA hS (in_of (by omega) (by omega)) dL_law_575 ?_
  refine lv_topi (fun v_16 ev_16 => ?_)
  have qv_16 : v_8 = v_16 := ev_8.trans ev_16.symm
  subst qv_16
  obtain ⟨fs_, he_⟩ := IY_0 hY_
  refine law_ci (C := RX9) (ci := 9) (As := [.int v_2, .int v_4, .int v_6, .int v_8]) (fY_walk l D cI cZ cC cS sq H.size ay ln sn tz bf lt th k0 k1 g g0 g1 tn tb iz fz v_2 v_4 v_6 v_8 hY_) S gL_law_X9_walk rfl hdV_X9_walk ⟨Nat.le_of_ble_eq_true rfl, Nat.le_of_ble_eq_true rfl⟩ ⟨Nat.le_of_ble_eq_true rfl, Nat.le_of_ble_eq_true rfl⟩ hK hT hS hA hP hD rfl he_ rfl hl.1 rfl (Nat.le_of_ble_eq_true rfl) dL_law_576 (fun r2 wy H locs hw hP hD hS => ?_)
  obtain ⟨ga2, fz2, hr2, hY_⟩ := hw
  obtain ⟨er, eg, ef⟩ := stWalk_eq hr1 hr2
  subst eg
  subst ef
  refine lv_pop S.1 S.2.1 dL_law_579 rfl ?_
  refine lv_goto (tgt := 1034) S.1 S.2.1 dL_law_580 (by decide) ?_
  exact K ln sn tz bf lt th k0 k1 ga1 g0 g1 tn tb iz fz1 wx wy H _ ls hX_ hY_ hP hD hS hl
set_option maxHeartbeats 4000000 in
set_option maxRecDepth 100000 in
theorem law_person {p : Program} (l : Launch) {e : Env} {s : State} {m : MethodId} {below : List Frame} {meth : Method} {c : Code} (D : va_G) (cI cZ cC cS : ClassId) (sq : Nat → Nat) {b L : Nat} {sc : Nat → Int32} {A : Nat → Prop} (C : lC p s m meth c b L sc A) (hK : kW D (tyW cI cZ cC cS) sq s) (hT : sT sq A s s.heap) (ad ay : Nat → Nat) (fq fim : Nat → Option Nat) (hL : L ≤ 3072) (i : Int32) (hi : 0 ≤ i.toInt ∧ i.toInt + 6 ≤ L) (K : ∀ (ln sn : Nat → Int32) (tz : Int32) (bf : Nat → Int32) (lt th k0 k1 : Int32) (g g0 g1 : Nat → Int) (tn : Int32) (tb : Nat → Int32) (iz : Nat → Int32) (fz : Int32) (wx wy : va_W) (H : Heap) (locs : List Loc) (ls : Array Slot), IX cI cC cS ad fq fim ln sn tz bf lt th k0 k1 g g0 g1 tn tb iz fz wx → IY cI cZ ay ln sn tz bf lt th k0 k1 g g0 g1 tn tb iz fz wy → va_P D vwCl (wx ++ wy) H → va_D A (wx ++ wy) → va_S A s.heap H locs → lv_has ls 4 [(3, .int i), (2, .ref (ay 0)), (1, .ref (ad 0)), (0, .ref b)] → W p l e room_1 s m #[Value.ref b] below meth c H locs 98 12032 (lw_Z below #[Value.ref b] s) (F0 m 1034 ls [])) {ln sn : Nat → Int32} {tz : Int32} {bf : Nat → Int32} {lt th k0 k1 : Int32} {g g0 g1 : Nat → Int} {tn : Int32} {tb : Nat → Int32} {iz : Nat → Int32} {fz : Int32} {wx wy : va_W} {H : Heap} {locs : List Loc} {ls : Array Slot} (hX_ : IX cI cC cS ad fq fim ln sn tz bf lt th k0 k1 g g0 g1 tn tb iz fz wx) (hY_ : IY cI cZ ay ln sn tz bf lt th k0 k1 g g0 g1 tn tb iz fz wy) (hP : va_P D vwCl (wx ++ wy) H) (hD : va_D A (wx ++ wy)) (hS : va_S A s.heap H locs) (hl : lv_has ls 4 [(3, .int i), (2, .ref (ay 0)), (1, .ref (ad 0)), (0, .ref b)]) : W p l e room_1 s m #[Value.ref b] below meth c H locs 98 12032 (lw_Z below #[Value.ref b] s) (F0 m 583 ls []) := by
  obtain ⟨S, hr_, hk_, hX, hbl, hA, hAf⟩ := id C
  have hbA : ¬ A b := fun z => absurd (hAf b z) (Nat.not_le.mpr hbl)
  refine lv_aload_n S.1 S.2.1 dL_law_583 rfl (lv_at hl 2 rfl) ?_
  refine lv_aload_n S.1 S.2.1 dL_law_584 rfl (lv_at hl 3 rfl) ?_
  refine lv_iload_n S.1 S.2.1 dL_law_585 rfl (lv_at hl 0 rfl) ?_
  refine lv_iconst (v := (1)) S.1 S.2.1 dL_law_586 (by decide) ?_
  refine lv_iadd S.1 S.2.1 dL_law_587 ?_
  refine lv_topi (fun x_1 ex_1 => ?_)
  have tx_1 : x_1.toInt = i.toInt + (1) := addI (A := i.toInt) (B := 1) ex_1 rfl rfl (by omega) (by omega)
  refine va_sld S.1 S.2.1 hX hbl hbA hS (in_of (by omega) (by omega)) dL_law_588 ?_
  refine lv_topi (fun v_2 ev_2 => ?_)
  refine lv_aload_n S.1 S.2.1 dL_law_589 rfl (lv_at hl 3 rfl) ?_
  refine lv_iload_n S.1 S.2.1 dL_law_590 rfl (lv_at hl 0 rfl) ?_
  refine lv_iconst (v := (2)) S.1 S.2.1 dL_law_591 (by decide) ?_
  refine lv_iadd S.1 S.2.1 dL_law_592 ?_
  refine lv_topi (fun x_3 ex_3 => ?_)
  have tx_3 : x_3.toInt = i.toInt + (2) := addI (A := i.toInt) (B := 2) ex_3 rfl rfl (by omega) (by omega)
  refine va_sld S.1 S.2.1 hX hbl hbA hS (in_of (by omega) (by omega)) dL_law_593 ?_
  refine lv_topi (fun v_4 ev_4 => ?_)
  obtain ⟨fs_, he_⟩ := IX_0 hX_
  refine law_ci (C := RX8) (ci := 8) (As := [.int v_2, .int v_4]) (fX_person l D cI cZ cC cS sq H.size ad fq fim ln sn tz bf lt th k0 k1 g g0 g1 tn tb iz fz v_2 v_4 hX_) S gL_law_X8_person rfl hdV_X8_person ⟨Nat.le_of_ble_eq_true rfl, Nat.le_of_ble_eq_true rfl⟩ ⟨Nat.le_of_ble_eq_true rfl, Nat.le_of_ble_eq_true rfl⟩ hK hT hS hA hP hD rfl he_ rfl hl.1 rfl (Nat.le_of_ble_eq_true rfl) dL_law_594 (fun r1 wx H locs hw hP hD hS => ?_)
  obtain ⟨hr1, hX_⟩ := hw
  refine lv_pop S.1 S.2.1 dL_law_597 rfl ?_
  refine lv_aload_n S.1 S.2.1 dL_law_598 rfl (lv_at hl 1 rfl) ?_
  refine lv_aload_n S.1 S.2.1 dL_law_599 rfl (lv_at hl 3 rfl) ?_
  refine lv_iload_n S.1 S.2.1 dL_law_600 rfl (lv_at hl 0 rfl) ?_
  refine lv_iconst (v := (1)) S.1 S.2.1 dL_law_601 (by decide) ?_
  refine lv_iadd S.1 S.2.1 dL_law_602 ?_
  refine lv_topi (fun x_5 ex_5 => ?_)
  have qx_5 : x_1 = x_5 := ex_1.trans ex_5.symm
  subst qx_5
  refine va_sld S.1 S.2.1 hX hbl hbA hS (in_of (by omega) (by omega)) dL_law_603 ?_
  refine lv_topi (fun v_6 ev_6 => ?_)
  have qv_6 : v_2 = v_6 := ev_2.trans ev_6.symm
  subst qv_6
  refine lv_aload_n S.1 S.2.1 dL_law_604 rfl (lv_at hl 3 rfl) ?_
  refine lv_iload_n S.1 S.2.1 dL_law_605 rfl (lv_at hl 0 rfl) ?_
  refine lv_iconst (v := (2)) S.1 S.2.1 dL_law_606 (by decide) ?_
  refine lv_iadd S.1 S.2.1 dL_law_607 ?_
  refine lv_topi (fun x_7 ex_7 => ?_)
  have qx_7 : x_3 = x_7 := ex_3.trans ex_7.symm
  subst qx_7
  refine va_sld S.1 S.2.1 hX hbl hbA hS (in_of (by omega) (by omega)) dL_law_608 ?_
  refine lv_topi (fun v_8 ev_8 => ?_)
  have qv_8 : v_4 = v_8 := ev_4.trans ev_8.symm
  subst qv_8
  obtain ⟨fs_, he_⟩ := IY_0 hY_
  refine law_ci (C := RX9) (ci := 9) (As := [.int v_2, .int v_4]) (fY_person l D cI cZ cC cS sq H.size ay ln sn tz bf lt th k0 k1 g g0 g1 tn tb iz fz v_2 v_4 hY_) S gL_law_X9_person rfl hdV_X9_person ⟨Nat.le_of_ble_eq_true rfl, Nat.le_of_ble_eq_true rfl⟩ ⟨Nat.le_of_ble_eq_true rfl, Nat.le_of_ble_eq_true rfl⟩ hK hT hS hA hP hD rfl he_ rfl hl.1 rfl (Nat.le_of_ble_eq_true rfl) dL_law_609 (fun r2 wy H locs hw hP hD hS => ?_)
  obtain ⟨hr2, hY_⟩ := hw
  have er := stPerson_eq hr1 hr2
  refine lv_pop S.1 S.2.1 dL_law_612 rfl ?_
  refine lv_goto (tgt := 1034) S.1 S.2.1 dL_law_613 (by decide) ?_
  exact K ln sn tz bf lt th k0 k1 g g0 g1 tn tb iz fz wx wy H _ ls hX_ hY_ hP hD hS hl
set_option maxHeartbeats 4000000 in
set_option maxRecDepth 100000 in
theorem law_got {p : Program} (l : Launch) {e : Env} {s : State} {m : MethodId} {below : List Frame} {meth : Method} {c : Code} (D : va_G) (cI cZ cC cS : ClassId) (sq : Nat → Nat) {b L : Nat} {sc : Nat → Int32} {A : Nat → Prop} (C : lC p s m meth c b L sc A) (hK : kW D (tyW cI cZ cC cS) sq s) (hT : sT sq A s s.heap) (ad ay : Nat → Nat) (fq fim : Nat → Option Nat) (hL : L ≤ 3072) (i : Int32) (hi : 0 ≤ i.toInt ∧ i.toInt + 6 ≤ L) (K : ∀ (ln sn : Nat → Int32) (tz : Int32) (bf : Nat → Int32) (lt th k0 k1 : Int32) (g g0 g1 : Nat → Int) (tn : Int32) (tb : Nat → Int32) (iz : Nat → Int32) (fz : Int32) (wx wy : va_W) (H : Heap) (locs : List Loc) (ls : Array Slot), IX cI cC cS ad fq fim ln sn tz bf lt th k0 k1 g g0 g1 tn tb iz fz wx → IY cI cZ ay ln sn tz bf lt th k0 k1 g g0 g1 tn tb iz fz wy → va_P D vwCl (wx ++ wy) H → va_D A (wx ++ wy) → va_S A s.heap H locs → lv_has ls 4 [(3, .int i), (2, .ref (ay 0)), (1, .ref (ad 0)), (0, .ref b)] → W p l e room_1 s m #[Value.ref b] below meth c H locs 98 12032 (lw_Z below #[Value.ref b] s) (F0 m 1034 ls [])) {ln sn : Nat → Int32} {tz : Int32} {bf : Nat → Int32} {lt th k0 k1 : Int32} {g g0 g1 : Nat → Int} {tn : Int32} {tb : Nat → Int32} {iz : Nat → Int32} {fz : Int32} {wx wy : va_W} {H : Heap} {locs : List Loc} {ls : Array Slot} (hX_ : IX cI cC cS ad fq fim ln sn tz bf lt th k0 k1 g g0 g1 tn tb iz fz wx) (hY_ : IY cI cZ ay ln sn tz bf lt th k0 k1 g g0 g1 tn tb iz fz wy) (hP : va_P D vwCl (wx ++ wy) H) (hD : va_D A (wx ++ wy)) (hS : va_S A s.heap H locs) (hl : lv_has ls 4 [(3, .int i), (2, .ref (ay 0)), (1, .ref (ad 0)), (0, .ref b)]) : W p l e room_1 s m #[Value.ref b] below meth c H locs 98 12032 (lw_Z below #[Value.ref b] s) (F0 m 616 ls []) := by
  obtain ⟨S, hr_, hk_, hX, hbl, hA, hAf⟩ := id C
  have hbA : ¬ A b := fun z => absurd (hAf b z) (Nat.not_le.mpr hbl)
  refine lv_aload_n S.1 S.2.1 dL_law_616 rfl (lv_at hl 2 rfl) ?_
  refine lv_aload_n S.1 S.2.1 dL_law_617 rfl (lv_at hl 3 rfl) ?_
  refine lv_iload_n S.1 S.2.1 dL_law_618 rfl (lv_at hl 0 rfl) ?_
  refine lv_iconst (v := (1)) S.1 S.2.1 dL_law_619 (by decide) ?_
  refine lv_iadd S.1 S.2.1 dL_law_620 ?_
  refine lv_topi (fun x_1 ex_1 => ?_)
  have tx_1 : x_1.toInt = i.toInt + (1) := addI (A := i.toInt) (B := 1) ex_1 rfl rfl (by omega) (by omega)
  refine va_sld S.1 S.2.1 hX hbl hbA hS (in_of (by omega) (by omega)) dL_law_621 ?_
  refine lv_topi (fun v_2 ev_2 => ?_)
  obtain ⟨fs_, he_⟩ := IX_0 hX_
  refine law_ci (C := RX8) (ci := 8) (As := [.int v_2]) (fX_got l D cI cZ cC cS sq H.size ad fq fim ln sn tz bf lt th k0 k1 g g0 g1 tn tb iz fz v_2 hX_) S gL_law_X8_got rfl hdV_X8_got ⟨Nat.le_of_ble_eq_true rfl, Nat.le_of_ble_eq_true rfl⟩ ⟨Nat.le_of_ble_eq_true rfl, Nat.le_of_ble_eq_true rfl⟩ hK hT hS hA hP hD rfl he_ rfl hl.1 rfl (Nat.le_of_ble_eq_true rfl) dL_law_622 (fun r1 wx H locs hw hP hD hS => ?_)
  obtain ⟨hr1, hX_⟩ := hw
  refine lv_pop S.1 S.2.1 dL_law_625 rfl ?_
  refine lv_aload_n S.1 S.2.1 dL_law_626 rfl (lv_at hl 1 rfl) ?_
  refine lv_aload_n S.1 S.2.1 dL_law_627 rfl (lv_at hl 3 rfl) ?_
  refine lv_iload_n S.1 S.2.1 dL_law_628 rfl (lv_at hl 0 rfl) ?_
  refine lv_iconst (v := (1)) S.1 S.2.1 dL_law_629 (by decide) ?_
  refine lv_iadd S.1 S.2.1 dL_law_630 ?_
  refine lv_topi (fun x_3 ex_3 => ?_)
  have qx_3 : x_1 = x_3 := ex_1.trans ex_3.symm
  subst qx_3
  refine va_sld S.1 S.2.1 hX hbl hbA hS (in_of (by omega) (by omega)) dL_law_631 ?_
  refine lv_topi (fun v_4 ev_4 => ?_)
  have qv_4 : v_2 = v_4 := ev_2.trans ev_4.symm
  subst qv_4
  obtain ⟨fs_, he_⟩ := IY_0 hY_
  refine law_ci (C := RX9) (ci := 9) (As := [.int v_2]) (fY_got l D cI cZ cC cS sq H.size ay ln sn tz bf lt th k0 k1 g g0 g1 tn tb iz fz v_2 hY_) S gL_law_X9_got rfl hdV_X9_got ⟨Nat.le_of_ble_eq_true rfl, Nat.le_of_ble_eq_true rfl⟩ ⟨Nat.le_of_ble_eq_true rfl, Nat.le_of_ble_eq_true rfl⟩ hK hT hS hA hP hD rfl he_ rfl hl.1 rfl (Nat.le_of_ble_eq_true rfl) dL_law_632 (fun r2 wy H locs hw hP hD hS => ?_)
  obtain ⟨hr2, hY_⟩ := hw
  have er := stGot_eq hr1 hr2
  refine lv_pop S.1 S.2.1 dL_law_635 rfl ?_
  refine lv_goto (tgt := 1034) S.1 S.2.1 dL_law_636 (by decide) ?_
  exact K ln sn tz bf lt th k0 k1 g g0 g1 tn tb iz fz wx wy H _ ls hX_ hY_ hP hD hS hl
set_option maxHeartbeats 4000000 in
set_option maxRecDepth 100000 in
theorem law_witnesses {p : Program} (l : Launch) {e : Env} {s : State} {m : MethodId} {below : List Frame} {meth : Method} {c : Code} (D : va_G) (cI cZ cC cS : ClassId) (sq : Nat → Nat) {b L : Nat} {sc : Nat → Int32} {A : Nat → Prop} (C : lC p s m meth c b L sc A) (hK : kW D (tyW cI cZ cC cS) sq s) (hT : sT sq A s s.heap) (ad ay : Nat → Nat) (fq fim : Nat → Option Nat) (hL : L ≤ 3072) (i : Int32) (hi : 0 ≤ i.toInt ∧ i.toInt + 6 ≤ L) (K : ∀ (ln sn : Nat → Int32) (tz : Int32) (bf : Nat → Int32) (lt th k0 k1 : Int32) (g g0 g1 : Nat → Int) (tn : Int32) (tb : Nat → Int32) (iz : Nat → Int32) (fz : Int32) (wx wy : va_W) (H : Heap) (locs : List Loc) (ls : Array Slot), IX cI cC cS ad fq fim ln sn tz bf lt th k0 k1 g g0 g1 tn tb iz fz wx → IY cI cZ ay ln sn tz bf lt th k0 k1 g g0 g1 tn tb iz fz wy → va_P D vwCl (wx ++ wy) H → va_D A (wx ++ wy) → va_S A s.heap H locs → lv_has ls 4 [(3, .int i), (2, .ref (ay 0)), (1, .ref (ad 0)), (0, .ref b)] → W p l e room_1 s m #[Value.ref b] below meth c H locs 98 12032 (lw_Z below #[Value.ref b] s) (F0 m 1034 ls [])) {ln sn : Nat → Int32} {tz : Int32} {bf : Nat → Int32} {lt th k0 k1 : Int32} {g g0 g1 : Nat → Int} {tn : Int32} {tb : Nat → Int32} {iz : Nat → Int32} {fz : Int32} {wx wy : va_W} {H : Heap} {locs : List Loc} {ls : Array Slot} (hX_ : IX cI cC cS ad fq fim ln sn tz bf lt th k0 k1 g g0 g1 tn tb iz fz wx) (hY_ : IY cI cZ ay ln sn tz bf lt th k0 k1 g g0 g1 tn tb iz fz wy) (hP : va_P D vwCl (wx ++ wy) H) (hD : va_D A (wx ++ wy)) (hS : va_S A s.heap H locs) (hl : lv_has ls 4 [(3, .int i), (2, .ref (ay 0)), (1, .ref (ad 0)), (0, .ref b)]) : W p l e room_1 s m #[Value.ref b] below meth c H locs 98 12032 (lw_Z below #[Value.ref b] s) (F0 m 639 ls []) := by
  obtain ⟨S, hr_, hk_, hX, hbl, hA, hAf⟩ := id C
  have hbA : ¬ A b := fun z => absurd (hAf b z) (Nat.not_le.mpr hbl)
  refine lv_aload_n S.1 S.2.1 dL_law_639 rfl (lv_at hl 2 rfl) ?_
  refine lv_aload_n S.1 S.2.1 dL_law_640 rfl (lv_at hl 3 rfl) ?_
  refine lv_iload_n S.1 S.2.1 dL_law_641 rfl (lv_at hl 0 rfl) ?_
  refine lv_iconst (v := (1)) S.1 S.2.1 dL_law_642 (by decide) ?_
  refine lv_iadd S.1 S.2.1 dL_law_643 ?_
  refine lv_topi (fun x_1 ex_1 => ?_)
  have tx_1 : x_1.toInt = i.toInt + (1) := addI (A := i.toInt) (B := 1) ex_1 rfl rfl (by omega) (by omega)
  refine va_sld S.1 S.2.1 hX hbl hbA hS (in_of (by omega) (by omega)) dL_law_644 ?_
  refine lv_topi (fun v_2 ev_2 => ?_)
  obtain ⟨fs_, he_⟩ := IX_0 hX_
  refine law_ci (C := RX8) (ci := 8) (As := [.int v_2]) (fX_witnesses l D cI cZ cC cS sq H.size ad fq fim ln sn tz bf lt th k0 k1 g g0 g1 tn tb iz fz v_2 hX_) S gL_law_X8_witnesses rfl hdV_X8_witnesses ⟨Nat.le_of_ble_eq_true rfl, Nat.le_of_ble_eq_true rfl⟩ ⟨Nat.le_of_ble_eq_true rfl, Nat.le_of_ble_eq_true rfl⟩ hK hT hS hA hP hD rfl he_ rfl hl.1 rfl (Nat.le_of_ble_eq_true rfl) dL_law_645 (fun r1 wx H locs hw hP hD hS => ?_)
  obtain ⟨hr1, hX_⟩ := hw
  refine lv_pop S.1 S.2.1 dL_law_648 rfl ?_
  refine lv_aload_n S.1 S.2.1 dL_law_649 rfl (lv_at hl 1 rfl) ?_
  refine lv_aload_n S.1 S.2.1 dL_law_650 rfl (lv_at hl 3 rfl) ?_
  refine lv_iload_n S.1 S.2.1 dL_law_651 rfl (lv_at hl 0 rfl) ?_
  refine lv_iconst (v := (1)) S.1 S.2.1 dL_law_652 (by decide) ?_
  refine lv_iadd S.1 S.2.1 dL_law_653 ?_
  refine lv_topi (fun x_3 ex_3 => ?_)
  have qx_3 : x_1 = x_3 := ex_1.trans ex_3.symm
  subst qx_3
  refine va_sld S.1 S.2.1 hX hbl hbA hS (in_of (by omega) (by omega)) dL_law_654 ?_
  refine lv_topi (fun v_4 ev_4 => ?_)
  have qv_4 : v_2 = v_4 := ev_2.trans ev_4.symm
  subst qv_4
  obtain ⟨fs_, he_⟩ := IY_0 hY_
  refine law_ci (C := RX9) (ci := 9) (As := [.int v_2]) (fY_witnesses l D cI cZ cC cS sq H.size ay ln sn tz bf lt th k0 k1 g g0 g1 tn tb iz fz v_2 hY_) S gL_law_X9_witnesses rfl hdV_X9_witnesses ⟨Nat.le_of_ble_eq_true rfl, Nat.le_of_ble_eq_true rfl⟩ ⟨Nat.le_of_ble_eq_true rfl, Nat.le_of_ble_eq_true rfl⟩ hK hT hS hA hP hD rfl he_ rfl hl.1 rfl (Nat.le_of_ble_eq_true rfl) dL_law_655 (fun r2 wy H locs hw hP hD hS => ?_)
  obtain ⟨hr2, hY_⟩ := hw
  have er := stWit_eq hr1 hr2
  refine lv_pop S.1 S.2.1 dL_law_658 rfl ?_
  refine lv_goto (tgt := 1034) S.1 S.2.1 dL_law_659 (by decide) ?_
  exact K ln sn tz bf lt th k0 k1 g g0 g1 tn tb iz fz wx wy H _ ls hX_ hY_ hP hD hS hl
