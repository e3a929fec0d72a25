set_option maxRecDepth 20000 in
theorem ggX1_fronts_X1_ownerOf : GoodIn wsX1_fronts wsX1_ownerOf := goodIn_r _ [5, 6, 7, 8, 9, 4, 10, 11, 12, 13, 14, 15, 16, 17, 18, 19, 20, 21, 22, 23, 24] (by decide +kernel) (by decide +kernel)
set_option maxRecDepth 20000 in
theorem gX1_fronts_X1_ownerOf : GoodIn wsX1_fronts (wsV RX1 65 RX1 yX1_ownerOf wsX1_ownerOf) := goodIn_app (goodIn_of _ (by decide +kernel)) ggX1_fronts_X1_ownerOf
set_option maxRecDepth 20000 in
theorem ggX1_mirrors_X1_isMirror : GoodIn wsX1_mirrors wsX1_isMirror := goodIn_r _ [5, 6, 7, 8, 9, 4, 10, 11, 12, 13, 14, 15, 16, 17, 18, 19, 20, 21, 22, 23, 24] (by decide +kernel) (by decide +kernel)
set_option maxRecDepth 20000 in
theorem gX1_mirrors_X1_isMirror : GoodIn wsX1_mirrors (wsV RX1 82 RX1 yX1_isMirror wsX1_isMirror) := goodIn_app (goodIn_of _ (by decide +kernel)) ggX1_mirrors_X1_isMirror
theorem dX1_fronts_0 : decode cX1_fronts 0 = .ok (.iconst 0, 1) := by decide +kernel
theorem dX1_fronts_1 : decode cX1_fronts 1 = .ok (.istore_n 1, 1) := by decide +kernel
theorem dX1_fronts_10 : decode cX1_fronts 10 = .ok (.aload_n 0, 1) := by decide +kernel
theorem dX1_fronts_11 : decode cX1_fronts 11 = .ok (.iload_n 2, 1) := by decide +kernel
theorem dX1_fronts_12 : decode cX1_fronts 12 = .ok (.invokevirtual 65, 3) := by decide +kernel
theorem dX1_fronts_15 : decode cX1_fronts 15 = .ok (.bipush 6, 2) := by decide +kernel
theorem dX1_fronts_17 : decode cX1_fronts 17 = .ok (.if_icmp .eq 6, 3) := by decide +kernel
theorem dX1_fronts_2 : decode cX1_fronts 2 = .ok (.iconst 0, 1) := by decide +kernel
theorem dX1_fronts_23 : decode cX1_fronts 23 = .ok (.iinc 2 1, 3) := by decide +kernel
theorem dX1_fronts_26 : decode cX1_fronts 26 = .ok (.goto (-22), 3) := by decide +kernel
theorem dX1_fronts_29 : decode cX1_fronts 29 = .ok (.iload_n 1, 1) := by decide +kernel
theorem dX1_fronts_3 : decode cX1_fronts 3 = .ok (.istore_n 2, 1) := by decide +kernel
theorem dX1_fronts_30 : decode cX1_fronts 30 = .ok (.ireturn, 1) := by decide +kernel
theorem dX1_fronts_4 : decode cX1_fronts 4 = .ok (.iload_n 2, 1) := by decide +kernel
theorem dX1_fronts_5 : decode cX1_fronts 5 = .ok (.bipush 80, 2) := by decide +kernel
theorem dX1_fronts_7 : decode cX1_fronts 7 = .ok (.if_icmp .ge 22, 3) := by decide +kernel
theorem dX1_mirrors_0 : decode cX1_mirrors 0 = .ok (.iconst 0, 1) := by decide +kernel
theorem dX1_mirrors_1 : decode cX1_mirrors 1 = .ok (.istore_n 1, 1) := by decide +kernel
theorem dX1_mirrors_10 : decode cX1_mirrors 10 = .ok (.aload_n 0, 1) := by decide +kernel
theorem dX1_mirrors_11 : decode cX1_mirrors 11 = .ok (.iload_n 2, 1) := by decide +kernel
theorem dX1_mirrors_12 : decode cX1_mirrors 12 = .ok (.invokevirtual 82, 3) := by decide +kernel
theorem dX1_mirrors_15 : decode cX1_mirrors 15 = .ok (.ifCond .eq 6, 3) := by decide +kernel
theorem dX1_mirrors_2 : decode cX1_mirrors 2 = .ok (.iconst 0, 1) := by decide +kernel
theorem dX1_mirrors_21 : decode cX1_mirrors 21 = .ok (.iinc 2 1, 3) := by decide +kernel
theorem dX1_mirrors_24 : decode cX1_mirrors 24 = .ok (.goto (-20), 3) := by decide +kernel
theorem dX1_mirrors_27 : decode cX1_mirrors 27 = .ok (.iload_n 1, 1) := by decide +kernel
theorem dX1_mirrors_28 : decode cX1_mirrors 28 = .ok (.ireturn, 1) := by decide +kernel
theorem dX1_mirrors_3 : decode cX1_mirrors 3 = .ok (.istore_n 2, 1) := by decide +kernel
theorem dX1_mirrors_4 : decode cX1_mirrors 4 = .ok (.iload_n 2, 1) := by decide +kernel
theorem dX1_mirrors_5 : decode cX1_mirrors 5 = .ok (.bipush 80, 2) := by decide +kernel
theorem dX1_mirrors_7 : decode cX1_mirrors 7 = .ok (.if_icmp .ge 20, 3) := by decide +kernel
theorem dX5_append_0 : decode cX5_append 0 = .ok (.iload_n 3, 1) := by decide +kernel
theorem dX5_append_1 : decode cX5_append 1 = .ok (.iconst 1, 1) := by decide +kernel
theorem dX5_append_10 : decode cX5_append 10 = .ok (.aload_n 0, 1) := by decide +kernel
theorem dX5_append_11 : decode cX5_append 11 = .ok (.getfield 9, 3) := by decide +kernel
theorem dX5_append_14 : decode cX5_append 14 = .ok (.aload_n 0, 1) := by decide +kernel
theorem dX5_append_15 : decode cX5_append 15 = .ok (.getfield 13, 3) := by decide +kernel
theorem dX5_append_18 : decode cX5_append 18 = .ok (.lload_n 1, 1) := by decide +kernel
theorem dX5_append_19 : decode cX5_append 19 = .ok (.bipush 8, 2) := by decide +kernel
theorem dX5_append_2 : decode cX5_append 2 = .ok (.isub, 1) := by decide +kernel
theorem dX5_append_21 : decode cX5_append 21 = .ok (.iload 4, 2) := by decide +kernel
theorem dX5_append_23 : decode cX5_append 23 = .ok (.imul, 1) := by decide +kernel
theorem dX5_append_24 : decode cX5_append 24 = .ok (.lushr, 1) := by decide +kernel
theorem dX5_append_25 : decode cX5_append 25 = .ok (.l2i, 1) := by decide +kernel
theorem dX5_append_26 : decode cX5_append 26 = .ok (.sipush 255, 3) := by decide +kernel
theorem dX5_append_29 : decode cX5_append 29 = .ok (.iand, 1) := by decide +kernel
theorem dX5_append_3 : decode cX5_append 3 = .ok (.istore 4, 2) := by decide +kernel
theorem dX5_append_30 : decode cX5_append 30 = .ok (.iastore, 1) := by decide +kernel
theorem dX5_append_31 : decode cX5_append 31 = .ok (.aload_n 0, 1) := by decide +kernel
theorem dX5_append_32 : decode cX5_append 32 = .ok (.dup, 1) := by decide +kernel
theorem dX5_append_33 : decode cX5_append 33 = .ok (.getfield 13, 3) := by decide +kernel
theorem dX5_append_36 : decode cX5_append 36 = .ok (.iconst 1, 1) := by decide +kernel
theorem dX5_append_37 : decode cX5_append 37 = .ok (.iadd, 1) := by decide +kernel
theorem dX5_append_38 : decode cX5_append 38 = .ok (.putfield 13, 3) := by decide +kernel
theorem dX5_append_41 : decode cX5_append 41 = .ok (.iinc 4 (-1), 3) := by decide +kernel
theorem dX5_append_44 : decode cX5_append 44 = .ok (.goto (-39), 3) := by decide +kernel
theorem dX5_append_47 : decode cX5_append 47 = .ok (.return_, 1) := by decide +kernel
theorem dX5_append_5 : decode cX5_append 5 = .ok (.iload 4, 2) := by decide +kernel
theorem dX5_append_7 : decode cX5_append 7 = .ok (.ifCond .lt 40, 3) := by decide +kernel
theorem jX5_append_X5 : ∀ w ∈ u_ws RX5 TX5 6, w ∈ wsX5_append := fun w h => List.mem_cons_of_mem _ (List.mem_append_right _ h)
theorem hdV_X1_isMirror : yX1_isMirror.cls = RX1 ∧ yX1_isMirror.cls ≠ "java/lang/invoke/MethodHandle" ∧ yX1_isMirror.cls ≠ "java/lang/invoke/VarHandle" ∧ (parseMethodDescriptor yX1_isMirror.desc).map (fun d => d.parameters.length) = some 1 := by decide +kernel
theorem hdV_X1_ownerOf : yX1_ownerOf.cls = RX1 ∧ yX1_ownerOf.cls ≠ "java/lang/invoke/MethodHandle" ∧ yX1_ownerOf.cls ≠ "java/lang/invoke/VarHandle" ∧ (parseMethodDescriptor yX1_ownerOf.desc).map (fun d => d.parameters.length) = some 1 := by decide +kernel
theorem in_of {a : Int32} {n : Nat} (h0 : 0 ≤ a.toInt) (h1 : a.toInt < n) : vp_in a n := by
  unfold vp_in
  rw [c_lt (N := 0) rfl]
  have h2 : a.toNatClampNeg = a.toInt.toNat := rfl
  omega
set_option maxHeartbeats 4000000 in
set_option maxRecDepth 100000 in
theorem lp_X1_fronts {p : Program} (l : Launch) {e : Env} {s : State} {m : MethodId} {below : List Frame} {meth : Method} {c : Code} (D : va_G) (cI cZ cC cS : ClassId) (sq : Nat) (ct : Nat) (aCells : Nat) (aPrices : Nat) (aFree : Nat) (aPlaces : Nat) (aHomes : Nat) (aManners : Nat) (aGone : Nat) (aPaid : Nat) (aBlinks : Nat) {A : Nat → Prop} (X : bX p s m meth c cX1_fronts 3 wsX1_fronts yX1_fronts (some .int) [.ref ct]) (hK : kW D (tyW cI cZ cC cS) sq s) (hA : ∀ q, s.heap.size ≤ q → A q) :
    ∀ (k i : Nat), i + k = 80 → ∀ (H : Heap) (locs : List Loc) (ls : Array Slot), va_P D vwCl [(ct, .inr (1, [.int 0, .int 0, .int 0, .ref aCells, .ref aPrices, .ref aFree, .ref aPlaces, .ref aHomes, .ref aManners, .ref aGone, .ref aPaid, .ref aBlinks]))] H → va_D A [(ct, .inr (1, [.int 0, .int 0, .int 0, .ref aCells, .ref aPrices, .ref aFree, .ref aPlaces, .ref aHomes, .ref aManners, .ref aGone, .ref aPaid, .ref aBlinks]))] → va_S A s.heap H locs → lv_has ls 3 [(2, .int (nI i)), (1, .int 0), (0, .ref ct)] →
      W p l e (rmW 2 42 0 0) s m ([.ref ct] : List Value).toArray below meth c H locs 0 0 (MQ below (va_Qi (fun r w => r = 0 ∧ w = [(ct, .inr (1, [.int 0, .int 0, .int 0, .ref aCells, .ref aPrices, .ref aFree, .ref aPlaces, .ref aHomes, .ref aManners, .ref aGone, .ref aPaid, .ref aBlinks]))]) (wD D A) A) ([.ref ct] : List Value).toArray s 0 0 A) (F0 m 4 ls []) := by
  have S : CallFix p m c cX1_fronts 3 s ([.ref ct] : List Value).toArray wsX1_fronts RX1 := X.1
  intro k
  induction k with
  | zero =>
    intro i hi H locs ls hP hD hS hl
    obtain rfl : i = 80 := by omega
    refine lv_iload_n S.1 S.2.1 dX1_fronts_4 rfl (lv_at hl 0 rfl) ?_
    refine lv_bipush (v := 80) S.1 S.2.1 dX1_fronts_5 (by decide) ?_
    refine lv_icmp_ge (tgt := 29) S.1 S.2.1 dX1_fronts_7 (by decide) (fun c_1 => ?_) (fun c_1 => absurd (show (80 : Int32) ≤ nI 80 from by decide) c_1)
    refine lv_iload_n S.1 S.2.1 dX1_fronts_29 rfl (lv_at hl 1 rfl) ?_
    exact b_iret S.1 S.2.1 X.2.1 X.2.2.1 hP hD hS ⟨rfl, rfl⟩ dX1_fronts_30
  | succ k ih =>
    intro i hi H locs ls hP hD hS hl
    have hlt : i < 80 := by omega
    refine lv_iload_n S.1 S.2.1 dX1_fronts_4 rfl (lv_at hl 0 rfl) ?_
    refine lv_bipush (v := 80) S.1 S.2.1 dX1_fronts_5 (by decide) ?_
    refine lv_icmp_ge (tgt := 29) S.1 S.2.1 dX1_fronts_7 (by decide) (fun c_1 => absurd c_1 (nI_ge (b := 80) hlt (by decide))) (fun c_1 => ?_)
    refine lv_aload_n S.1 S.2.1 dX1_fronts_10 rfl (lv_at hl 2 rfl) ?_
    refine lv_iload_n S.1 S.2.1 dX1_fronts_11 rfl (lv_at hl 0 rfl) ?_
    refine b_ai (wr := []) (b_runV (q0 := 0) (ci := 1) (As := [.int (nI i)]) (c_X1_ownerOf l D cI cZ cC cS sq H.size ct aCells aPrices aFree aPlaces aHomes aManners aGone aPaid aBlinks (nI i)) S gX1_fronts_X1_ownerOf rfl hdV_X1_ownerOf ⟨Nat.le_of_ble_eq_true rfl, Nat.le_of_ble_eq_true rfl⟩ ⟨Nat.le_of_ble_eq_true rfl, Nat.le_of_ble_eq_true rfl⟩ hK hP hD rfl rfl [0] rfl (by decide) rfl hl.1 rfl (Nat.le_of_ble_eq_true rfl) dX1_fronts_12) hP hD hS hA [0] [] rfl rfl (by decide) (by decide) (fun r_2 w_3 H locs hw_4 hP hD hS => ?_)
    obtain ⟨rfl, rfl⟩ := hw_4
    have hP : va_P D vwCl [(ct, .inr (1, [.int 0, .int 0, .int 0, .ref aCells, .ref aPrices, .ref aFree, .ref aPlaces, .ref aHomes, .ref aManners, .ref aGone, .ref aPaid, .ref aBlinks]))] H := hP
    have hD : va_D A [(ct, .inr (1, [.int 0, .int 0, .int 0, .ref aCells, .ref aPrices, .ref aFree, .ref aPlaces, .ref aHomes, .ref aManners, .ref aGone, .ref aPaid, .ref aBlinks]))] := hD
    refine lv_bipush (v := 6) S.1 S.2.1 dX1_fronts_15 (by decide) ?_
    refine lv_icmp_eq (tgt := 23) S.1 S.2.1 dX1_fronts_17 (by decide) (fun c_5 => ?_) (fun c_5 => absurd c_5 (by decide))
    refine lv_iinc (v := nI (i + 1)) (lv' := [(2, .int (nI (i + 1))), (1, .int 0), (0, .ref ct)]) S.1 S.2.1 dX1_fronts_23 hl (k := 0) rfl (nI_1 i) (by decide) rfl (fun ls hl => ?_)
    refine lv_goto (tgt := 4) S.1 S.2.1 dX1_fronts_26 (by decide) ?_
    exact ih (i + 1) (by omega) H locs ls hP hD hS (lv_sub hl [0, 1, 2] rfl)
set_option maxHeartbeats 4000000 in
set_option maxRecDepth 100000 in
theorem c_X1_fronts (l : Launch) (D : va_G) (cI cZ cC cS : ClassId) (sq sz : Nat) (ct : Nat) (aCells : Nat) (aPrices : Nat) (aFree : Nat) (aPlaces : Nat) (aHomes : Nat) (aManners : Nat) (aGone : Nat) (aPaid : Nat) (aBlinks : Nat) : mI l yX1_fronts wsX1_fronts 2 42 D (tyW cI cZ cC cS) sq [(ct, .inr (1, [.int 0, .int 0, .int 0, .ref aCells, .ref aPrices, .ref aFree, .ref aPlaces, .ref aHomes, .ref aManners, .ref aGone, .ref aPaid, .ref aBlinks]))] sz [.ref ct] (fun r w => r = 0 ∧ w = [(ct, .inr (1, [.int 0, .int 0, .int 0, .ref aCells, .ref aPrices, .ref aFree, .ref aPlaces, .ref aHomes, .ref aManners, .ref aGone, .ref aPaid, .ref aBlinks]))]) := by
  refine b_metI (cc := cX1_fronts) (maxL := 3) (ret := (some .int)) (by decide) rfl (Nat.le_of_ble_eq_true rfl) ?_
  intro p e s m below meth c ls A H X hsz hP hK hD hA hS hl
  have S : CallFix p m c cX1_fronts 3 s ([.ref ct] : List Value).toArray wsX1_fronts RX1 := X.1
  have hl : lv_has ls 3 [(0, .ref ct)] := hl
  refine lv_iconst (v := 0) S.1 S.2.1 dX1_fronts_0 (by decide) ?_
  refine lv_istore_n (lv' := [(1, .int 0), (0, .ref ct)]) S.1 S.2.1 dX1_fronts_1 rfl hl (by decide) rfl (fun ls hl => ?_)
  refine lv_iconst (v := 0) S.1 S.2.1 dX1_fronts_2 (by decide) ?_
  refine lv_istore_n (lv' := [(2, .int 0), (1, .int 0), (0, .ref ct)]) S.1 S.2.1 dX1_fronts_3 rfl hl (by decide) rfl (fun ls hl => ?_)
  exact lp_X1_fronts l D cI cZ cC cS sq ct aCells aPrices aFree aPlaces aHomes aManners aGone aPaid aBlinks X hK hA 80 0 (by omega) H _ ls hP hD hS (lv_sub hl [0, 1, 2] rfl)
set_option maxHeartbeats 4000000 in
set_option maxRecDepth 100000 in
theorem lp_X1_mirrors {p : Program} (l : Launch) {e : Env} {s : State} {m : MethodId} {below : List Frame} {meth : Method} {c : Code} (D : va_G) (cI cZ cC cS : ClassId) (sq : Nat) (ct : Nat) (aCells : Nat) (aPrices : Nat) (aFree : Nat) (aPlaces : Nat) (aHomes : Nat) (aManners : Nat) (aGone : Nat) (aPaid : Nat) (aBlinks : Nat) {A : Nat → Prop} (X : bX p s m meth c cX1_mirrors 3 wsX1_mirrors yX1_mirrors (some .int) [.ref ct]) (hK : kW D (tyW cI cZ cC cS) sq s) (hA : ∀ q, s.heap.size ≤ q → A q) :
    ∀ (k i : Nat), i + k = 80 → ∀ (H : Heap) (locs : List Loc) (ls : Array Slot), va_P D vwCl [(ct, .inr (1, [.int 0, .int 0, .int 0, .ref aCells, .ref aPrices, .ref aFree, .ref aPlaces, .ref aHomes, .ref aManners, .ref aGone, .ref aPaid, .ref aBlinks]))] H → va_D A [(ct, .inr (1, [.int 0, .int 0, .int 0, .ref aCells, .ref aPrices, .ref aFree, .ref aPlaces, .ref aHomes, .ref aManners, .ref aGone, .ref aPaid, .ref aBlinks]))] → va_S A s.heap H locs → lv_has ls 3 [(2, .int (nI i)), (1, .int 0), (0, .ref ct)] →
      W p l e (rmW 2 42 0 0) s m ([.ref ct] : List Value).toArray below meth c H locs 0 0 (MQ below (va_Qi (fun r w => r = 0 ∧ w = [(ct, .inr (1, [.int 0, .int 0, .int 0, .ref aCells, .ref aPrices, .ref aFree, .ref aPlaces, .ref aHomes, .ref aManners, .ref aGone, .ref aPaid, .ref aBlinks]))]) (wD D A) A) ([.ref ct] : List Value).toArray s 0 0 A) (F0 m 4 ls []) := by
  have S : CallFix p m c cX1_mirrors 3 s ([.ref ct] : List Value).toArray wsX1_mirrors RX1 := X.1
  intro k
  induction k with
  | zero =>
    intro i hi H locs ls hP hD hS hl
    obtain rfl : i = 80 := by omega
    refine lv_iload_n S.1 S.2.1 dX1_mirrors_4 rfl (lv_at hl 0 rfl) ?_
    refine lv_bipush (v := 80) S.1 S.2.1 dX1_mirrors_5 (by decide) ?_
    refine lv_icmp_ge (tgt := 27) S.1 S.2.1 dX1_mirrors_7 (by decide) (fun c_1 => ?_) (fun c_1 => absurd (show (80 : Int32) ≤ nI 80 from by decide) c_1)
    refine lv_iload_n S.1 S.2.1 dX1_mirrors_27 rfl (lv_at hl 1 rfl) ?_
    exact b_iret S.1 S.2.1 X.2.1 X.2.2.1 hP hD hS ⟨rfl, rfl⟩ dX1_mirrors_28
  | succ k ih =>
    intro i hi H locs ls hP hD hS hl
    have hlt : i < 80 := by omega
    refine lv_iload_n S.1 S.2.1 dX1_mirrors_4 rfl (lv_at hl 0 rfl) ?_
    refine lv_bipush (v := 80) S.1 S.2.1 dX1_mirrors_5 (by decide) ?_
    refine lv_icmp_ge (tgt := 27) S.1 S.2.1 dX1_mirrors_7 (by decide) (fun c_1 => absurd c_1 (nI_ge (b := 80) hlt (by decide))) (fun c_1 => ?_)
    refine lv_aload_n S.1 S.2.1 dX1_mirrors_10 rfl (lv_at hl 2 rfl) ?_
    refine lv_iload_n S.1 S.2.1 dX1_mirrors_11 rfl (lv_at hl 0 rfl) ?_
    refine b_ai (wr := []) (b_runV (q0 := 0) (ci := 1) (As := [.int (nI i)]) (c_X1_isMirror l D cI cZ cC cS sq H.size ct aCells aPrices aFree aPlaces aHomes aManners aGone aPaid aBlinks (nI i)) S gX1_mirrors_X1_isMirror rfl hdV_X1_isMirror ⟨Nat.le_of_ble_eq_true rfl, Nat.le_of_ble_eq_true rfl⟩ ⟨Nat.le_of_ble_eq_true rfl, Nat.le_of_ble_eq_true rfl⟩ hK hP hD rfl rfl [0] rfl (by decide) rfl hl.1 rfl (Nat.le_of_ble_eq_true rfl) dX1_mirrors_12) hP hD hS hA [0] [] rfl rfl (by decide) (by decide) (fun r_2 w_3 H locs hw_4 hP hD hS => ?_)
    obtain ⟨rfl, rfl⟩ := hw_4
    have hP : va_P D vwCl [(ct, .inr (1, [.int 0, .int 0, .int 0, .ref aCells, .ref aPrices, .ref aFree, .ref aPlaces, .ref aHomes, .ref aManners, .ref aGone, .ref aPaid, .ref aBlinks]))] H := hP
    have hD : va_D A [(ct, .inr (1, [.int 0, .int 0, .int 0, .ref aCells, .ref aPrices, .ref aFree, .ref aPlaces, .ref aHomes, .ref aManners, .ref aGone, .ref aPaid, .ref aBlinks]))] := hD
    refine lv_if_eq (tgt := 21) S.1 S.2.1 dX1_mirrors_15 (by decide) (fun c_5 => ?_) (fun c_5 => absurd c_5 (by decide))
    refine lv_iinc (v := nI (i + 1)) (lv' := [(2, .int (nI (i + 1))), (1, .int 0), (0, .ref ct)]) S.1 S.2.1 dX1_mirrors_21 hl (k := 0) rfl (nI_1 i) (by decide) rfl (fun ls hl => ?_)
    refine lv_goto (tgt := 4) S.1 S.2.1 dX1_mirrors_24 (by decide) ?_
    exact ih (i + 1) (by omega) H locs ls hP hD hS (lv_sub hl [0, 1, 2] rfl)
set_option maxHeartbeats 4000000 in
set_option maxRecDepth 100000 in
theorem c_X1_mirrors (l : Launch) (D : va_G) (cI cZ cC cS : ClassId) (sq sz : Nat) (ct : Nat) (aCells : Nat) (aPrices : Nat) (aFree : Nat) (aPlaces : Nat) (aHomes : Nat) (aManners : Nat) (aGone : Nat) (aPaid : Nat) (aBlinks : Nat) : mI l yX1_mirrors wsX1_mirrors 2 42 D (tyW cI cZ cC cS) sq [(ct, .inr (1, [.int 0, .int 0, .int 0, .ref aCells, .ref aPrices, .ref aFree, .ref aPlaces, .ref aHomes, .ref aManners, .ref aGone, .ref aPaid, .ref aBlinks]))] sz [.ref ct] (fun r w => r = 0 ∧ w = [(ct, .inr (1, [.int 0, .int 0, .int 0, .ref aCells, .ref aPrices, .ref aFree, .ref aPlaces, .ref aHomes, .ref aManners, .ref aGone, .ref aPaid, .ref aBlinks]))]) := by
  refine b_metI (cc := cX1_mirrors) (maxL := 3) (ret := (some .int)) (by decide) rfl (Nat.le_of_ble_eq_true rfl) ?_
  intro p e s m below meth c ls A H X hsz hP hK hD hA hS hl
  have S : CallFix p m c cX1_mirrors 3 s ([.ref ct] : List Value).toArray wsX1_mirrors RX1 := X.1
  have hl : lv_has ls 3 [(0, .ref ct)] := hl
  refine lv_iconst (v := 0) S.1 S.2.1 dX1_mirrors_0 (by decide) ?_
  refine lv_istore_n (lv' := [(1, .int 0), (0, .ref ct)]) S.1 S.2.1 dX1_mirrors_1 rfl hl (by decide) rfl (fun ls hl => ?_)
  refine lv_iconst (v := 0) S.1 S.2.1 dX1_mirrors_2 (by decide) ?_
  refine lv_istore_n (lv' := [(2, .int 0), (1, .int 0), (0, .ref ct)]) S.1 S.2.1 dX1_mirrors_3 rfl hl (by decide) rfl (fun ls hl => ?_)
  exact lp_X1_mirrors l D cI cZ cC cS sq ct aCells aPrices aFree aPlaces aHomes aManners aGone aPaid aBlinks X hK hA 80 0 (by omega) H _ ls hP hD hS (lv_sub hl [0, 1, 2] rfl)
set_option maxHeartbeats 4000000 in
set_option maxRecDepth 100000 in
theorem c_X5_append_1 (l : Launch) (D : va_G) (cI cZ cC cS : ClassId) (sq sz : Nat) (tp : Nat) (by_ : Nat) (f : Nat → Int32) (wv : Int64) : mV l yX5_append wsX5_append 0 0 0 0 D (tyW cI cZ cC cS) sq [(tp, .inr (5, [.ref by_, .int 0, .int 0, .int 0, .int 0, .int 0])), (by_, .inl (cI, 400, .inl f))] sz [.ref tp, .long wv, .int 1] (fun w => w = [(tp, .inr (5, [.ref by_, .int 1, .int 0, .int 0, .int 0, .int 0]))]) := by
  refine b_metV (cc := cX5_append) (maxL := 5) (ret := none) (by decide) rfl (Nat.le_of_ble_eq_true rfl) ?_
  intro p e s m below meth c ls A H X hsz hP hK hD hA hS hl
  have S : CallFix p m c cX5_append 5 s ([.ref tp, .long wv, .int 1] : List Value).toArray wsX5_append RX5 := X.1
  have hl : lv_has ls 5 [(0, .ref tp), (1, .long wv), (3, .int 1)] := hl
  have iX5 := jX5_append_X5
  refine lv_iload_n S.1 S.2.1 dX5_append_0 rfl (lv_at hl 2 rfl) ?_
  refine lv_iconst (v := 1) S.1 S.2.1 dX5_append_1 (by decide) ?_
  refine lv_isub S.1 S.2.1 dX5_append_2 ?_
  refine lv_topi (fun x_1 ex_1 => ?_)
  have ex_1 : x_1 = 0 := by rw [ex_1]; decide
  subst ex_1
  refine lv_istore (lv' := [(4, .int 0), (0, .ref tp), (1, .long wv), (3, .int 1)]) S.1 S.2.1 dX5_append_3 hl (by decide) rfl (fun ls hl => ?_)
  refine lv_iload S.1 S.2.1 dX5_append_5 (lv_at hl 0 rfl) ?_
  refine lv_if_lt (tgt := 47) S.1 S.2.1 dX5_append_7 (by decide) (fun c_2 => absurd c_2 (by decide)) (fun c_2 => ?_)
  refine lv_aload_n S.1 S.2.1 dX5_append_10 rfl (lv_at hl 1 rfl) ?_
  refine b_get (v := .ref by_) S iX5 hK hP 0 rfl rfl 0 (by decide) (by decide +kernel) rfl dX5_append_11 ?_
  refine lv_aload_n S.1 S.2.1 dX5_append_14 rfl (lv_at hl 1 rfl) ?_
  refine b_get (v := .int 0) S iX5 hK hP 0 rfl rfl 1 (by decide) (by decide +kernel) rfl dX5_append_15 ?_
  refine lv_lload_n S.1 S.2.1 dX5_append_18 rfl (lv_at hl 2 rfl) ?_
  refine lv_bipush (v := 8) S.1 S.2.1 dX5_append_19 (by decide) ?_
  refine lv_iload S.1 S.2.1 dX5_append_21 (lv_at hl 0 rfl) ?_
  refine lv_imul S.1 S.2.1 dX5_append_23 ?_
  refine lv_topi (fun x_3 ex_3 => ?_)
  have ex_3 : x_3 = 0 := by rw [ex_3]; decide
  subst ex_3
  refine lv_lushr S.1 S.2.1 dX5_append_24 rfl ?_
  refine lv_topl (fun z_4 ez_4 => ?_)
  refine lv_l2i S.1 S.2.1 dX5_append_25 rfl ?_
  refine lv_topi (fun x_6 ex_6 => ?_)
  refine lv_sipush (v := 255) S.1 S.2.1 dX5_append_26 (by decide) ?_
  refine lv_iand S.1 S.2.1 dX5_append_29 ?_
  refine lv_topi (fun x_7 ex_7 => ?_)
  refine va_iast S.1 S.2.1 hK.1 hP hD hS 1 0 rfl rfl (by unfold vp_in; decide) dX5_append_30 (fun H locs hP hD hS => ?_)
  have hP : va_P D vwCl [(tp, .inr (5, [.ref by_, .int 0, .int 0, .int 0, .int 0, .int 0])), (by_, .inl (cI, 400, .inl (upd f (0 : Int32).toNatClampNeg (x_7))))] H := hP
  have hD : va_D A [(tp, .inr (5, [.ref by_, .int 0, .int 0, .int 0, .int 0, .int 0])), (by_, .inl (cI, 400, .inl (upd f (0 : Int32).toNatClampNeg (x_7))))] := hD
  generalize (upd f (0 : Int32).toNatClampNeg (x_7)) = f_8 at hP hD
  refine lv_aload_n S.1 S.2.1 dX5_append_31 rfl (lv_at hl 1 rfl) ?_
  refine lv_dup S.1 S.2.1 dX5_append_32 rfl ?_
  refine b_get (v := .int 0) S iX5 hK hP 0 rfl rfl 1 (by decide) (by decide +kernel) rfl dX5_append_33 ?_
  refine lv_iconst (v := 1) S.1 S.2.1 dX5_append_36 (by decide) ?_
  refine lv_iadd S.1 S.2.1 dX5_append_37 ?_
  refine lv_topi (fun x_9 ex_9 => ?_)
  have ex_9 : x_9 = 1 := by rw [ex_9]; decide
  subst ex_9
  refine b_put (v := .int 1) S iX5 tyX5 tyX5_ok nmX5 hK hP hD hS 0 rfl rfl 1 (by decide) (by decide +kernel) rfl rfl rfl (Nat.le_of_ble_eq_true rfl) dX5_append_38 (fun H locs hP hD hS => ?_)
  have hP : va_P D vwCl [(tp, .inr (5, [.ref by_, .int 1, .int 0, .int 0, .int 0, .int 0])), (by_, .inl (cI, 400, .inl f_8))] H := hP
  have hD : va_D A [(tp, .inr (5, [.ref by_, .int 1, .int 0, .int 0, .int 0, .int 0])), (by_, .inl (cI, 400, .inl f_8))] := hD
  refine lv_iinc (v := (-1)) (lv' := [(4, .int (-1)), (0, .ref tp), (1, .long wv), (3, .int 1)]) S.1 S.2.1 dX5_append_41 hl (k := 0) rfl (by decide) (by decide) rfl (fun ls hl => ?_)
  refine lv_goto (tgt := 5) S.1 S.2.1 dX5_append_44 (by decide) ?_
  refine lv_iload S.1 S.2.1 dX5_append_5 (lv_at hl 0 rfl) ?_
  refine lv_if_lt (tgt := 47) S.1 S.2.1 dX5_append_7 (by decide) (fun c_10 => ?_) (fun c_10 => absurd c_10 (by decide))
  have hP := hP.sub (ws' := [(tp, .inr (5, [.ref by_, .int 1, .int 0, .int 0, .int 0, .int 0]))]) [0] rfl
  have hD := hD.sub (ws' := [(tp, .inr (5, [.ref by_, .int 1, .int 0, .int 0, .int 0, .int 0]))]) [0] (by decide) rfl
  exact b_vret S.1 S.2.1 X.2.1 X.2.2.1 hP hD hS rfl dX5_append_47
set_option maxHeartbeats 4000000 in
set_option maxRecDepth 100000 in
theorem c_X5_append_2 (l : Launch) (D : va_G) (cI cZ cC cS : ClassId) (sq sz : Nat) (tp : Nat) (by_ : Nat) (f : Nat → Int32) (wv : Int64) : mV l yX5_append wsX5_append 0 0 0 0 D (tyW cI cZ cC cS) sq [(tp, .inr (5, [.ref by_, .int 0, .int 0, .int 0, .int 0, .int 0])), (by_, .inl (cI, 400, .inl f))] sz [.ref tp, .long wv, .int 2] (fun w => w = [(tp, .inr (5, [.ref by_, .int 2, .int 0, .int 0, .int 0, .int 0]))]) := by
  refine b_metV (cc := cX5_append) (maxL := 5) (ret := none) (by decide) rfl (Nat.le_of_ble_eq_true rfl) ?_
  intro p e s m below meth c ls A H X hsz hP hK hD hA hS hl
  have S : CallFix p m c cX5_append 5 s ([.ref tp, .long wv, .int 2] : List Value).toArray wsX5_append RX5 := X.1
  have hl : lv_has ls 5 [(0, .ref tp), (1, .long wv), (3, .int 2)] := hl
  have iX5 := jX5_append_X5
  refine lv_iload_n S.1 S.2.1 dX5_append_0 rfl (lv_at hl 2 rfl) ?_
  refine lv_iconst (v := 1) S.1 S.2.1 dX5_append_1 (by decide) ?_
  refine lv_isub S.1 S.2.1 dX5_append_2 ?_
  refine lv_topi (fun x_1 ex_1 => ?_)
  have ex_1 : x_1 = 1 := by rw [ex_1]; decide
  subst ex_1
  refine lv_istore (lv' := [(4, .int 1), (0, .ref tp), (1, .long wv), (3, .int 2)]) S.1 S.2.1 dX5_append_3 hl (by decide) rfl (fun ls hl => ?_)
  refine lv_iload S.1 S.2.1 dX5_append_5 (lv_at hl 0 rfl) ?_
  refine lv_if_lt (tgt := 47) S.1 S.2.1 dX5_append_7 (by decide) (fun c_2 => absurd c_2 (by decide)) (fun c_2 => ?_)
  refine lv_aload_n S.1 S.2.1 dX5_append_10 rfl (lv_at hl 1 rfl) ?_
  refine b_get (v := .ref by_) S iX5 hK hP 0 rfl rfl 0 (by decide) (by decide +kernel) rfl dX5_append_11 ?_
  refine lv_aload_n S.1 S.2.1 dX5_append_14 rfl (lv_at hl 1 rfl) ?_
  refine b_get (v := .int 0) S iX5 hK hP 0 rfl rfl 1 (by decide) (by decide +kernel) rfl dX5_append_15 ?_
  refine lv_lload_n S.1 S.2.1 dX5_append_18 rfl (lv_at hl 2 rfl) ?_
  refine lv_bipush (v := 8) S.1 S.2.1 dX5_append_19 (by decide) ?_
  refine lv_iload S.1 S.2.1 dX5_append_21 (lv_at hl 0 rfl) ?_
  refine lv_imul S.1 S.2.1 dX5_append_23 ?_
  refine lv_topi (fun x_3 ex_3 => ?_)
  have ex_3 : x_3 = 8 := by rw [ex_3]; decide
  subst ex_3
  refine lv_lushr S.1 S.2.1 dX5_append_24 rfl ?_
  refine lv_topl (fun z_4 ez_4 => ?_)
  refine lv_l2i S.1 S.2.1 dX5_append_25 rfl ?_
  refine lv_topi (fun x_6 ex_6 => ?_)
  refine lv_sipush (v := 255) S.1 S.2.1 dX5_append_26 (by decide) ?_
  refine lv_iand S.1 S.2.1 dX5_append_29 ?_
  refine lv_topi (fun x_7 ex_7 => ?_)
  refine va_iast S.1 S.2.1 hK.1 hP hD hS 1 0 rfl rfl (by unfold vp_in; decide) dX5_append_30 (fun H locs hP hD hS => ?_)
  have hP : va_P D vwCl [(tp, .inr (5, [.ref by_, .int 0, .int 0, .int 0, .int 0, .int 0])), (by_, .inl (cI, 400, .inl (upd f (0 : Int32).toNatClampNeg (x_7))))] H := hP
  have hD : va_D A [(tp, .inr (5, [.ref by_, .int 0, .int 0, .int 0, .int 0, .int 0])), (by_, .inl (cI, 400, .inl (upd f (0 : Int32).toNatClampNeg (x_7))))] := hD
  generalize (upd f (0 : Int32).toNatClampNeg (x_7)) = f_8 at hP hD
  refine lv_aload_n S.1 S.2.1 dX5_append_31 rfl (lv_at hl 1 rfl) ?_
  refine lv_dup S.1 S.2.1 dX5_append_32 rfl ?_
  refine b_get (v := .int 0) S iX5 hK hP 0 rfl rfl 1 (by decide) (by decide +kernel) rfl dX5_append_33 ?_
  refine lv_iconst (v := 1) S.1 S.2.1 dX5_append_36 (by decide) ?_
  refine lv_iadd S.1 S.2.1 dX5_append_37 ?_
  refine lv_topi (fun x_9 ex_9 => ?_)
  have ex_9 : x_9 = 1 := by rw [ex_9]; decide
  subst ex_9
  refine b_put (v := .int 1) S iX5 tyX5 tyX5_ok nmX5 hK hP hD hS 0 rfl rfl 1 (by decide) (by decide +kernel) rfl rfl rfl (Nat.le_of_ble_eq_true rfl) dX5_append_38 (fun H locs hP hD hS => ?_)
  have hP : va_P D vwCl [(tp, .inr (5, [.ref by_, .int 1, .int 0, .int 0, .int 0, .int 0])), (by_, .inl (cI, 400, .inl f_8))] H := hP
  have hD : va_D A [(tp, .inr (5, [.ref by_, .int 1, .int 0, .int 0, .int 0, .int 0])), (by_, .inl (cI, 400, .inl f_8))] := hD
  refine lv_iinc (v := 0) (lv' := [(4, .int 0), (0, .ref tp), (1, .long wv), (3, .int 2)]) S.1 S.2.1 dX5_append_41 hl (k := 0) rfl (by decide) (by decide) rfl (fun ls hl => ?_)
  refine lv_goto (tgt := 5) S.1 S.2.1 dX5_append_44 (by decide) ?_
  refine lv_iload S.1 S.2.1 dX5_append_5 (lv_at hl 0 rfl) ?_
  refine lv_if_lt (tgt := 47) S.1 S.2.1 dX5_append_7 (by decide) (fun c_10 => absurd c_10 (by decide)) (fun c_10 => ?_)
  refine lv_aload_n S.1 S.2.1 dX5_append_10 rfl (lv_at hl 1 rfl) ?_
  refine b_get (v := .ref by_) S iX5 hK hP 0 rfl rfl 0 (by decide) (by decide +kernel) rfl dX5_append_11 ?_
  refine lv_aload_n S.1 S.2.1 dX5_append_14 rfl (lv_at hl 1 rfl) ?_
  refine b_get (v := .int 1) S iX5 hK hP 0 rfl rfl 1 (by decide) (by decide +kernel) rfl dX5_append_15 ?_
  refine lv_lload_n S.1 S.2.1 dX5_append_18 rfl (lv_at hl 2 rfl) ?_
  refine lv_bipush (v := 8) S.1 S.2.1 dX5_append_19 (by decide) ?_
  refine lv_iload S.1 S.2.1 dX5_append_21 (lv_at hl 0 rfl) ?_
  refine lv_imul S.1 S.2.1 dX5_append_23 ?_
  refine lv_topi (fun x_11 ex_11 => ?_)
  have ex_11 : x_11 = 0 := by rw [ex_11]; decide
  subst ex_11
  refine lv_lushr S.1 S.2.1 dX5_append_24 rfl ?_
  refine lv_topl (fun z_12 ez_12 => ?_)
  refine lv_l2i S.1 S.2.1 dX5_append_25 rfl ?_
  refine lv_topi (fun x_14 ex_14 => ?_)
  refine lv_sipush (v := 255) S.1 S.2.1 dX5_append_26 (by decide) ?_
  refine lv_iand S.1 S.2.1 dX5_append_29 ?_
  refine lv_topi (fun x_15 ex_15 => ?_)
  refine va_iast S.1 S.2.1 hK.1 hP hD hS 1 0 rfl rfl (by unfold vp_in; decide) dX5_append_30 (fun H locs hP hD hS => ?_)
  have hP : va_P D vwCl [(tp, .inr (5, [.ref by_, .int 1, .int 0, .int 0, .int 0, .int 0])), (by_, .inl (cI, 400, .inl (upd f_8 (1 : Int32).toNatClampNeg (x_15))))] H := hP
  have hD : va_D A [(tp, .inr (5, [.ref by_, .int 1, .int 0, .int 0, .int 0, .int 0])), (by_, .inl (cI, 400, .inl (upd f_8 (1 : Int32).toNatClampNeg (x_15))))] := hD
  generalize (upd f_8 (1 : Int32).toNatClampNeg (x_15)) = f_16 at hP hD
  refine lv_aload_n S.1 S.2.1 dX5_append_31 rfl (lv_at hl 1 rfl) ?_
  refine lv_dup S.1 S.2.1 dX5_append_32 rfl ?_
  refine b_get (v := .int 1) S iX5 hK hP 0 rfl rfl 1 (by decide) (by decide +kernel) rfl dX5_append_33 ?_
  refine lv_iconst (v := 1) S.1 S.2.1 dX5_append_36 (by decide) ?_
  refine lv_iadd S.1 S.2.1 dX5_append_37 ?_
  refine lv_topi (fun x_17 ex_17 => ?_)
  have ex_17 : x_17 = 2 := by rw [ex_17]; decide
  subst ex_17
  refine b_put (v := .int 2) S iX5 tyX5 tyX5_ok nmX5 hK hP hD hS 0 rfl rfl 1 (by decide) (by decide +kernel) rfl rfl rfl (Nat.le_of_ble_eq_true rfl) dX5_append_38 (fun H locs hP hD hS => ?_)
  have hP : va_P D vwCl [(tp, .inr (5, [.ref by_, .int 2, .int 0, .int 0, .int 0, .int 0])), (by_, .inl (cI, 400, .inl f_16))] H := hP
  have hD : va_D A [(tp, .inr (5, [.ref by_, .int 2, .int 0, .int 0, .int 0, .int 0])), (by_, .inl (cI, 400, .inl f_16))] := hD
  refine lv_iinc (v := (-1)) (lv' := [(4, .int (-1)), (0, .ref tp), (1, .long wv), (3, .int 2)]) S.1 S.2.1 dX5_append_41 hl (k := 0) rfl (by decide) (by decide) rfl (fun ls hl => ?_)
  refine lv_goto (tgt := 5) S.1 S.2.1 dX5_append_44 (by decide) ?_
  refine lv_iload S.1 S.2.1 dX5_append_5 (lv_at hl 0 rfl) ?_
  refine lv_if_lt (tgt := 47) S.1 S.2.1 dX5_append_7 (by decide) (fun c_18 => ?_) (fun c_18 => absurd c_18 (by decide))
  have hP := hP.sub (ws' := [(tp, .inr (5, [.ref by_, .int 2, .int 0, .int 0, .int 0, .int 0]))]) [0] rfl
  have hD := hD.sub (ws' := [(tp, .inr (5, [.ref by_, .int 2, .int 0, .int 0, .int 0, .int 0]))]) [0] (by decide) rfl
  exact b_vret S.1 S.2.1 X.2.1 X.2.2.1 hP hD hS rfl dX5_append_47
set_option maxHeartbeats 4000000 in
set_option maxRecDepth 100000 in
theorem c_X5_append_3 (l : Launch) (D : va_G) (cI cZ cC cS : ClassId) (sq sz : Nat) (tp : Nat) (by_ : Nat) (f : Nat → Int32) (wv : Int64) : mV l yX5_append wsX5_append 0 0 0 0 D (tyW cI cZ cC cS) sq [(tp, .inr (5, [.ref by_, .int 0, .int 0, .int 0, .int 0, .int 0])), (by_, .inl (cI, 400, .inl f))] sz [.ref tp, .long wv, .int 3] (fun w => w = [(tp, .inr (5, [.ref by_, .int 3, .int 0, .int 0, .int 0, .int 0]))]) := by
  refine b_metV (cc := cX5_append) (maxL := 5) (ret := none) (by decide) rfl (Nat.le_of_ble_eq_true rfl) ?_
  intro p e s m below meth c ls A H X hsz hP hK hD hA hS hl
  have S : CallFix p m c cX5_append 5 s ([.ref tp, .long wv, .int 3] : List Value).toArray wsX5_append RX5 := X.1
  have hl : lv_has ls 5 [(0, .ref tp), (1, .long wv), (3, .int 3)] := hl
  have iX5 := jX5_append_X5
  refine lv_iload_n S.1 S.2.1 dX5_append_0 rfl (lv_at hl 2 rfl) ?_
  refine lv_iconst (v := 1) S.1 S.2.1 dX5_append_1 (by decide) ?_
  refine lv_isub S.1 S.2.1 dX5_append_2 ?_
  refine lv_topi (fun x_1 ex_1 => ?_)
  have ex_1 : x_1 = 2 := by rw [ex_1]; decide
  subst ex_1
  refine lv_istore (lv' := [(4, .int 2), (0, .ref tp), (1, .long wv), (3, .int 3)]) S.1 S.2.1 dX5_append_3 hl (by decide) rfl (fun ls hl => ?_)
  refine lv_iload S.1 S.2.1 dX5_append_5 (lv_at hl 0 rfl) ?_
  refine lv_if_lt (tgt := 47) S.1 S.2.1 dX5_append_7 (by decide) (fun c_2 => absurd c_2 (by decide)) (fun c_2 => ?_)
  refine lv_aload_n S.1 S.2.1 dX5_append_10 rfl (lv_at hl 1 rfl) ?_
  refine b_get (v := .ref by_) S iX5 hK hP 0 rfl rfl 0 (by decide) (by decide +kernel) rfl dX5_append_11 ?_
  refine lv_aload_n S.1 S.2.1 dX5_append_14 rfl (lv_at hl 1 rfl) ?_
  refine b_get (v := .int 0) S iX5 hK hP 0 rfl rfl 1 (by decide) (by decide +kernel) rfl dX5_append_15 ?_
  refine lv_lload_n S.1 S.2.1 dX5_append_18 rfl (lv_at hl 2 rfl) ?_
  refine lv_bipush (v := 8) S.1 S.2.1 dX5_append_19 (by decide) ?_
  refine lv_iload S.1 S.2.1 dX5_append_21 (lv_at hl 0 rfl) ?_
  refine lv_imul S.1 S.2.1 dX5_append_23 ?_
  refine lv_topi (fun x_3 ex_3 => ?_)
  have ex_3 : x_3 = 16 := by rw [ex_3]; decide
  subst ex_3
  refine lv_lushr S.1 S.2.1 dX5_append_24 rfl ?_
  refine lv_topl (fun z_4 ez_4 => ?_)
  refine lv_l2i S.1 S.2.1 dX5_append_25 rfl ?_
  refine lv_topi (fun x_6 ex_6 => ?_)
  refine lv_sipush (v := 255) S.1 S.2.1 dX5_append_26 (by decide) ?_
  refine lv_iand S.1 S.2.1 dX5_append_29 ?_
  refine lv_topi (fun x_7 ex_7 => ?_)
  refine va_iast S.1 S.2.1 hK.1 hP hD hS 1 0 rfl rfl (by unfold vp_in; decide) dX5_append_30 (fun H locs hP hD hS => ?_)
  have hP : va_P D vwCl [(tp, .inr (5, [.ref by_, .int 0, .int 0, .int 0, .int 0, .int 0])), (by_, .inl (cI, 400, .inl (upd f (0 : Int32).toNatClampNeg (x_7))))] H := hP
  have hD : va_D A [(tp, .inr (5, [.ref by_, .int 0, .int 0, .int 0, .int 0, .int 0])), (by_, .inl (cI, 400, .inl (upd f (0 : Int32).toNatClampNeg (x_7))))] := hD
  generalize (upd f (0 : Int32).toNatClampNeg (x_7)) = f_8 at hP hD
  refine lv_aload_n S.1 S.2.1 dX5_append_31 rfl (lv_at hl 1 rfl) ?_
  refine lv_dup S.1 S.2.1 dX5_append_32 rfl ?_
  refine b_get (v := .int 0) S iX5 hK hP 0 rfl rfl 1 (by decide) (by decide +kernel) rfl dX5_append_33 ?_
  refine lv_iconst (v := 1) S.1 S.2.1 dX5_append_36 (by decide) ?_
  refine lv_iadd S.1 S.2.1 dX5_append_37 ?_
  refine lv_topi (fun x_9 ex_9 => ?_)
  have ex_9 : x_9 = 1 := by rw [ex_9]; decide
  subst ex_9
  refine b_put (v := .int 1) S iX5 tyX5 tyX5_ok nmX5 hK hP hD hS 0 rfl rfl 1 (by decide) (by decide +kernel) rfl rfl rfl (Nat.le_of_ble_eq_true rfl) dX5_append_38 (fun H locs hP hD hS => ?_)
  have hP : va_P D vwCl [(tp, .inr (5, [.ref by_, .int 1, .int 0, .int 0, .int 0, .int 0])), (by_, .inl (cI, 400, .inl f_8))] H := hP
  have hD : va_D A [(tp, .inr (5, [.ref by_, .int 1, .int 0, .int 0, .int 0, .int 0])), (by_, .inl (cI, 400, .inl f_8))] := hD
  refine lv_iinc (v := 1) (lv' := [(4, .int 1), (0, .ref tp), (1, .long wv), (3, .int 3)]) S.1 S.2.1 dX5_append_41 hl (k := 0) rfl (by decide) (by decide) rfl (fun ls hl => ?_)
  refine lv_goto (tgt := 5) S.1 S.2.1 dX5_append_44 (by decide) ?_
  refine lv_iload S.1 S.2.1 dX5_append_5 (lv_at hl 0 rfl) ?_
  refine lv_if_lt (tgt := 47) S.1 S.2.1 dX5_append_7 (by decide) (fun c_10 => absurd c_10 (by decide)) (fun c_10 => ?_)
  refine lv_aload_n S.1 S.2.1 dX5_append_10 rfl (lv_at hl 1 rfl) ?_
  refine b_get (v := .ref by_) S iX5 hK hP 0 rfl rfl 0 (by decide) (by decide +kernel) rfl dX5_append_11 ?_
  refine lv_aload_n S.1 S.2.1 dX5_append_14 rfl (lv_at hl 1 rfl) ?_
  refine b_get (v := .int 1) S iX5 hK hP 0 rfl rfl 1 (by decide) (by decide +kernel) rfl dX5_append_15 ?_
  refine lv_lload_n S.1 S.2.1 dX5_append_18 rfl (lv_at hl 2 rfl) ?_
  refine lv_bipush (v := 8) S.1 S.2.1 dX5_append_19 (by decide) ?_
  refine lv_iload S.1 S.2.1 dX5_append_21 (lv_at hl 0 rfl) ?_
  refine lv_imul S.1 S.2.1 dX5_append_23 ?_
  refine lv_topi (fun x_11 ex_11 => ?_)
  have ex_11 : x_11 = 8 := by rw [ex_11]; decide
  subst ex_11
  refine lv_lushr S.1 S.2.1 dX5_append_24 rfl ?_
  refine lv_topl (fun z_12 ez_12 => ?_)
  refine lv_l2i S.1 S.2.1 dX5_append_25 rfl ?_
  refine lv_topi (fun x_14 ex_14 => ?_)
  refine lv_sipush (v := 255) S.1 S.2.1 dX5_append_26 (by decide) ?_
  refine lv_iand S.1 S.2.1 dX5_append_29 ?_
  refine lv_topi (fun x_15 ex_15 => ?_)
  refine va_iast S.1 S.2.1 hK.1 hP hD hS 1 0 rfl rfl (by unfold vp_in; decide) dX5_append_30 (fun H locs hP hD hS => ?_)
  have hP : va_P D vwCl [(tp, .inr (5, [.ref by_, .int 1, .int 0, .int 0, .int 0, .int 0])), (by_, .inl (cI, 400, .inl (upd f_8 (1 : Int32).toNatClampNeg (x_15))))] H := hP
  have hD : va_D A [(tp, .inr (5, [.ref by_, .int 1, .int 0, .int 0, .int 0, .int 0])), (by_, .inl (cI, 400, .inl (upd f_8 (1 : Int32).toNatClampNeg (x_15))))] := hD
  generalize (upd f_8 (1 : Int32).toNatClampNeg (x_15)) = f_16 at hP hD
  refine lv_aload_n S.1 S.2.1 dX5_append_31 rfl (lv_at hl 1 rfl) ?_
  refine lv_dup S.1 S.2.1 dX5_append_32 rfl ?_
  refine b_get (v := .int 1) S iX5 hK hP 0 rfl rfl 1 (by decide) (by decide +kernel) rfl dX5_append_33 ?_
  refine lv_iconst (v := 1) S.1 S.2.1 dX5_append_36 (by decide) ?_
  refine lv_iadd S.1 S.2.1 dX5_append_37 ?_
  refine lv_topi (fun x_17 ex_17 => ?_)
  have ex_17 : x_17 = 2 := by rw [ex_17]; decide
  subst ex_17
  refine b_put (v := .int 2) S iX5 tyX5 tyX5_ok nmX5 hK hP hD hS 0 rfl rfl 1 (by decide) (by decide +kernel) rfl rfl rfl (Nat.le_of_ble_eq_true rfl) dX5_append_38 (fun H locs hP hD hS => ?_)
  have hP : va_P D vwCl [(tp, .inr (5, [.ref by_, .int 2, .int 0, .int 0, .int 0, .int 0])), (by_, .inl (cI, 400, .inl f_16))] H := hP
  have hD : va_D A [(tp, .inr (5, [.ref by_, .int 2, .int 0, .int 0, .int 0, .int 0])), (by_, .inl (cI, 400, .inl f_16))] := hD
  refine lv_iinc (v := 0) (lv' := [(4, .int 0), (0, .ref tp), (1, .long wv), (3, .int 3)]) S.1 S.2.1 dX5_append_41 hl (k := 0) rfl (by decide) (by decide) rfl (fun ls hl => ?_)
  refine lv_goto (tgt := 5) S.1 S.2.1 dX5_append_44 (by decide) ?_
  refine lv_iload S.1 S.2.1 dX5_append_5 (lv_at hl 0 rfl) ?_
  refine lv_if_lt (tgt := 47) S.1 S.2.1 dX5_append_7 (by decide) (fun c_18 => absurd c_18 (by decide)) (fun c_18 => ?_)
  refine lv_aload_n S.1 S.2.1 dX5_append_10 rfl (lv_at hl 1 rfl) ?_
  refine b_get (v := .ref by_) S iX5 hK hP 0 rfl rfl 0 (by decide) (by decide +kernel) rfl dX5_append_11 ?_
  refine lv_aload_n S.1 S.2.1 dX5_append_14 rfl (lv_at hl 1 rfl) ?_
  refine b_get (v := .int 2) S iX5 hK hP 0 rfl rfl 1 (by decide) (by decide +kernel) rfl dX5_append_15 ?_
  refine lv_lload_n S.1 S.2.1 dX5_append_18 rfl (lv_at hl 2 rfl) ?_
  refine lv_bipush (v := 8) S.1 S.2.1 dX5_append_19 (by decide) ?_
  refine lv_iload S.1 S.2.1 dX5_append_21 (lv_at hl 0 rfl) ?_
  refine lv_imul S.1 S.2.1 dX5_append_23 ?_
  refine lv_topi (fun x_19 ex_19 => ?_)
  have ex_19 : x_19 = 0 := by rw [ex_19]; decide
  subst ex_19
  refine lv_lushr S.1 S.2.1 dX5_append_24 rfl ?_
  refine lv_topl (fun z_20 ez_20 => ?_)
  refine lv_l2i S.1 S.2.1 dX5_append_25 rfl ?_
  refine lv_topi (fun x_22 ex_22 => ?_)
  refine lv_sipush (v := 255) S.1 S.2.1 dX5_append_26 (by decide) ?_
  refine lv_iand S.1 S.2.1 dX5_append_29 ?_
  refine lv_topi (fun x_23 ex_23 => ?_)
  refine va_iast S.1 S.2.1 hK.1 hP hD hS 1 0 rfl rfl (by unfold vp_in; decide) dX5_append_30 (fun H locs hP hD hS => ?_)
  have hP : va_P D vwCl [(tp, .inr (5, [.ref by_, .int 2, .int 0, .int 0, .int 0, .int 0])), (by_, .inl (cI, 400, .inl (upd f_16 (2 : Int32).toNatClampNeg (x_23))))] H := hP
  have hD : va_D A [(tp, .inr (5, [.ref by_, .int 2, .int 0, .int 0, .int 0, .int 0])), (by_, .inl (cI, 400, .inl (upd f_16 (2 : Int32).toNatClampNeg (x_23))))] := hD
  generalize (upd f_16 (2 : Int32).toNatClampNeg (x_23)) = f_24 at hP hD
  refine lv_aload_n S.1 S.2.1 dX5_append_31 rfl (lv_at hl 1 rfl) ?_
  refine lv_dup S.1 S.2.1 dX5_append_32 rfl ?_
  refine b_get (v := .int 2) S iX5 hK hP 0 rfl rfl 1 (by decide) (by decide +kernel) rfl dX5_append_33 ?_
  refine lv_iconst (v := 1) S.1 S.2.1 dX5_append_36 (by decide) ?_
  refine lv_iadd S.1 S.2.1 dX5_append_37 ?_
  refine lv_topi (fun x_25 ex_25 => ?_)
  have ex_25 : x_25 = 3 := by rw [ex_25]; decide
  subst ex_25
  refine b_put (v := .int 3) S iX5 tyX5 tyX5_ok nmX5 hK hP hD hS 0 rfl rfl 1 (by decide) (by decide +kernel) rfl rfl rfl (Nat.le_of_ble_eq_true rfl) dX5_append_38 (fun H locs hP hD hS => ?_)
  have hP : va_P D vwCl [(tp, .inr (5, [.ref by_, .int 3, .int 0, .int 0, .int 0, .int 0])), (by_, .inl (cI, 400, .inl f_24))] H := hP
  have hD : va_D A [(tp, .inr (5, [.ref by_, .int 3, .int 0, .int 0, .int 0, .int 0])), (by_, .inl (cI, 400, .inl f_24))] := hD
  refine lv_iinc (v := (-1)) (lv' := [(4, .int (-1)), (0, .ref tp), (1, .long wv), (3, .int 3)]) S.1 S.2.1 dX5_append_41 hl (k := 0) rfl (by decide) (by decide) rfl (fun ls hl => ?_)
  refine lv_goto (tgt := 5) S.1 S.2.1 dX5_append_44 (by decide) ?_
  refine lv_iload S.1 S.2.1 dX5_append_5 (lv_at hl 0 rfl) ?_
  refine lv_if_lt (tgt := 47) S.1 S.2.1 dX5_append_7 (by decide) (fun c_26 => ?_) (fun c_26 => absurd c_26 (by decide))
  have hP := hP.sub (ws' := [(tp, .inr (5, [.ref by_, .int 3, .int 0, .int 0, .int 0, .int 0]))]) [0] rfl
  have hD := hD.sub (ws' := [(tp, .inr (5, [.ref by_, .int 3, .int 0, .int 0, .int 0, .int 0]))]) [0] (by decide) rfl
  exact b_vret S.1 S.2.1 X.2.1 X.2.2.1 hP hD hS rfl dX5_append_47
set_option maxHeartbeats 4000000 in
set_option maxRecDepth 100000 in
theorem c_X5_append_4 (l : Launch) (D : va_G) (cI cZ cC cS : ClassId) (sq sz : Nat) (tp : Nat) (by_ : Nat) (f : Nat → Int32) (wv : Int64) : mV l yX5_append wsX5_append 0 0 0 0 D (tyW cI cZ cC cS) sq [(tp, .inr (5, [.ref by_, .int 0, .int 0, .int 0, .int 0, .int 0])), (by_, .inl (cI, 400, .inl f))] sz [.ref tp, .long wv, .int 4] (fun w => w = [(tp, .inr (5, [.ref by_, .int 4, .int 0, .int 0, .int 0, .int 0]))]) := by
  refine b_metV (cc := cX5_append) (maxL := 5) (ret := none) (by decide) rfl (Nat.le_of_ble_eq_true rfl) ?_
  intro p e s m below meth c ls A H X hsz hP hK hD hA hS hl
  have S : CallFix p m c cX5_append 5 s ([.ref tp, .long wv, .int 4] : List Value).toArray wsX5_append RX5 := X.1
  have hl : lv_has ls 5 [(0, .ref tp), (1, .long wv), (3, .int 4)] := hl
  have iX5 := jX5_append_X5
  refine lv_iload_n S.1 S.2.1 dX5_append_0 rfl (lv_at hl 2 rfl) ?_
  refine lv_iconst (v := 1) S.1 S.2.1 dX5_append_1 (by decide) ?_
  refine lv_isub S.1 S.2.1 dX5_append_2 ?_
  refine lv_topi (fun x_1 ex_1 => ?_)
  have ex_1 : x_1 = 3 := by rw [ex_1]; decide
  subst ex_1
  refine lv_istore (lv' := [(4, .int 3), (0, .ref tp), (1, .long wv), (3, .int 4)]) S.1 S.2.1 dX5_append_3 hl (by decide) rfl (fun ls hl => ?_)
  refine lv_iload S.1 S.2.1 dX5_append_5 (lv_at hl 0 rfl) ?_
  refine lv_if_lt (tgt := 47) S.1 S.2.1 dX5_append_7 (by decide) (fun c_2 => absurd c_2 (by decide)) (fun c_2 => ?_)
  refine lv_aload_n S.1 S.2.1 dX5_append_10 rfl (lv_at hl 1 rfl) ?_
  refine b_get (v := .ref by_) S iX5 hK hP 0 rfl rfl 0 (by decide) (by decide +kernel) rfl dX5_append_11 ?_
  refine lv_aload_n S.1 S.2.1 dX5_append_14 rfl (lv_at hl 1 rfl) ?_
  refine b_get (v := .int 0) S iX5 hK hP 0 rfl rfl 1 (by decide) (by decide +kernel) rfl dX5_append_15 ?_
  refine lv_lload_n S.1 S.2.1 dX5_append_18 rfl (lv_at hl 2 rfl) ?_
  refine lv_bipush (v := 8) S.1 S.2.1 dX5_append_19 (by decide) ?_
  refine lv_iload S.1 S.2.1 dX5_append_21 (lv_at hl 0 rfl) ?_
  refine lv_imul S.1 S.2.1 dX5_append_23 ?_
  refine lv_topi (fun x_3 ex_3 => ?_)
  have ex_3 : x_3 = 24 := by rw [ex_3]; decide
  subst ex_3
  refine lv_lushr S.1 S.2.1 dX5_append_24 rfl ?_
  refine lv_topl (fun z_4 ez_4 => ?_)
  refine lv_l2i S.1 S.2.1 dX5_append_25 rfl ?_
  refine lv_topi (fun x_6 ex_6 => ?_)
  refine lv_sipush (v := 255) S.1 S.2.1 dX5_append_26 (by decide) ?_
  refine lv_iand S.1 S.2.1 dX5_append_29 ?_
  refine lv_topi (fun x_7 ex_7 => ?_)
  refine va_iast S.1 S.2.1 hK.1 hP hD hS 1 0 rfl rfl (by unfold vp_in; decide) dX5_append_30 (fun H locs hP hD hS => ?_)
  have hP : va_P D vwCl [(tp, .inr (5, [.ref by_, .int 0, .int 0, .int 0, .int 0, .int 0])), (by_, .inl (cI, 400, .inl (upd f (0 : Int32).toNatClampNeg (x_7))))] H := hP
  have hD : va_D A [(tp, .inr (5, [.ref by_, .int 0, .int 0, .int 0, .int 0, .int 0])), (by_, .inl (cI, 400, .inl (upd f (0 : Int32).toNatClampNeg (x_7))))] := hD
  generalize (upd f (0 : Int32).toNatClampNeg (x_7)) = f_8 at hP hD
  refine lv_aload_n S.1 S.2.1 dX5_append_31 rfl (lv_at hl 1 rfl) ?_
  refine lv_dup S.1 S.2.1 dX5_append_32 rfl ?_
  refine b_get (v := .int 0) S iX5 hK hP 0 rfl rfl 1 (by decide) (by decide +kernel) rfl dX5_append_33 ?_
  refine lv_iconst (v := 1) S.1 S.2.1 dX5_append_36 (by decide) ?_
  refine lv_iadd S.1 S.2.1 dX5_append_37 ?_
  refine lv_topi (fun x_9 ex_9 => ?_)
  have ex_9 : x_9 = 1 := by rw [ex_9]; decide
  subst ex_9
  refine b_put (v := .int 1) S iX5 tyX5 tyX5_ok nmX5 hK hP hD hS 0 rfl rfl 1 (by decide) (by decide +kernel) rfl rfl rfl (Nat.le_of_ble_eq_true rfl) dX5_append_38 (fun H locs hP hD hS => ?_)
  have hP : va_P D vwCl [(tp, .inr (5, [.ref by_, .int 1, .int 0, .int 0, .int 0, .int 0])), (by_, .inl (cI, 400, .inl f_8))] H := hP
  have hD : va_D A [(tp, .inr (5, [.ref by_, .int 1, .int 0, .int 0, .int 0, .int 0])), (by_, .inl (cI, 400, .inl f_8))] := hD
  refine lv_iinc (v := 2) (lv' := [(4, .int 2), (0, .ref tp), (1, .long wv), (3, .int 4)]) S.1 S.2.1 dX5_append_41 hl (k := 0) rfl (by decide) (by decide) rfl (fun ls hl => ?_)
  refine lv_goto (tgt := 5) S.1 S.2.1 dX5_append_44 (by decide) ?_
  refine lv_iload S.1 S.2.1 dX5_append_5 (lv_at hl 0 rfl) ?_
  refine lv_if_lt (tgt := 47) S.1 S.2.1 dX5_append_7 (by decide) (fun c_10 => absurd c_10 (by decide)) (fun c_10 => ?_)
  refine lv_aload_n S.1 S.2.1 dX5_append_10 rfl (lv_at hl 1 rfl) ?_
  refine b_get (v := .ref by_) S iX5 hK hP 0 rfl rfl 0 (by decide) (by decide +kernel) rfl dX5_append_11 ?_
  refine lv_aload_n S.1 S.2.1 dX5_append_14 rfl (lv_at hl 1 rfl) ?_
  refine b_get (v := .int 1) S iX5 hK hP 0 rfl rfl 1 (by decide) (by decide +kernel) rfl dX5_append_15 ?_
  refine lv_lload_n S.1 S.2.1 dX5_append_18 rfl (lv_at hl 2 rfl) ?_
  refine lv_bipush (v := 8) S.1 S.2.1 dX5_append_19 (by decide) ?_
  refine lv_iload S.1 S.2.1 dX5_append_21 (lv_at hl 0 rfl) ?_
  refine lv_imul S.1 S.2.1 dX5_append_23 ?_
  refine lv_topi (fun x_11 ex_11 => ?_)
  have ex_11 : x_11 = 16 := by rw [ex_11]; decide
  subst ex_11
  refine lv_lushr S.1 S.2.1 dX5_append_24 rfl ?_
  refine lv_topl (fun z_12 ez_12 => ?_)
  refine lv_l2i S.1 S.2.1 dX5_append_25 rfl ?_
  refine lv_topi (fun x_14 ex_14 => ?_)
  refine lv_sipush (v := 255) S.1 S.2.1 dX5_append_26 (by decide) ?_
  refine lv_iand S.1 S.2.1 dX5_append_29 ?_
  refine lv_topi (fun x_15 ex_15 => ?_)
  refine va_iast S.1 S.2.1 hK.1 hP hD hS 1 0 rfl rfl (by unfold vp_in; decide) dX5_append_30 (fun H locs hP hD hS => ?_)
  have hP : va_P D vwCl [(tp, .inr (5, [.ref by_, .int 1, .int 0, .int 0, .int 0, .int 0])), (by_, .inl (cI, 400, .inl (upd f_8 (1 : Int32).toNatClampNeg (x_15))))] H := hP
  have hD : va_D A [(tp, .inr (5, [.ref by_, .int 1, .int 0, .int 0, .int 0, .int 0])), (by_, .inl (cI, 400, .inl (upd f_8 (1 : Int32).toNatClampNeg (x_15))))] := hD
  generalize (upd f_8 (1 : Int32).toNatClampNeg (x_15)) = f_16 at hP hD
  refine lv_aload_n S.1 S.2.1 dX5_append_31 rfl (lv_at hl 1 rfl) ?_
  refine lv_dup S.1 S.2.1 dX5_append_32 rfl ?_
  refine b_get (v := .int 1) S iX5 hK hP 0 rfl rfl 1 (by decide) (by decide +kernel) rfl dX5_append_33 ?_
  refine lv_iconst (v := 1) S.1 S.2.1 dX5_append_36 (by decide) ?_
  refine lv_iadd S.1 S.2.1 dX5_append_37 ?_
  refine lv_topi (fun x_17 ex_17 => ?_)
  have ex_17 : x_17 = 2 := by rw [ex_17]; decide
  subst ex_17
  refine b_put (v := .int 2) S iX5 tyX5 tyX5_ok nmX5 hK hP hD hS 0 rfl rfl 1 (by decide) (by decide +kernel) rfl rfl rfl (Nat.le_of_ble_eq_true rfl) dX5_append_38 (fun H locs hP hD hS => ?_)
  have hP : va_P D vwCl [(tp, .inr (5, [.ref by_, .int 2, .int 0, .int 0, .int 0, .int 0])), (by_, .inl (cI, 400, .inl f_16))] H := hP
  have hD : va_D A [(tp, .inr (5, [.ref by_, .int 2, .int 0, .int 0, .int 0, .int 0])), (by_, .inl (cI, 400, .inl f_16))] := hD
  refine lv_iinc (v := 1) (lv' := [(4, .int 1), (0, .ref tp), (1, .long wv), (3, .int 4)]) S.1 S.2.1 dX5_append_41 hl (k := 0) rfl (by decide) (by decide) rfl (fun ls hl => ?_)
  refine lv_goto (tgt := 5) S.1 S.2.1 dX5_append_44 (by decide) ?_
  refine lv_iload S.1 S.2.1 dX5_append_5 (lv_at hl 0 rfl) ?_
  refine lv_if_lt (tgt := 47) S.1 S.2.1 dX5_append_7 (by decide) (fun c_18 => absurd c_18 (by decide)) (fun c_18 => ?_)
  refine lv_aload_n S.1 S.2.1 dX5_append_10 rfl (lv_at hl 1 rfl) ?_
  refine b_get (v := .ref by_) S iX5 hK hP 0 rfl rfl 0 (by decide) (by decide +kernel) rfl dX5_append_11 ?_
  refine lv_aload_n S.1 S.2.1 dX5_append_14 rfl (lv_at hl 1 rfl) ?_
  refine b_get (v := .int 2) S iX5 hK hP 0 rfl rfl 1 (by decide) (by decide +kernel) rfl dX5_append_15 ?_
  refine lv_lload_n S.1 S.2.1 dX5_append_18 rfl (lv_at hl 2 rfl) ?_
  refine lv_bipush (v := 8) S.1 S.2.1 dX5_append_19 (by decide) ?_
  refine lv_iload S.1 S.2.1 dX5_append_21 (lv_at hl 0 rfl) ?_
  refine lv_imul S.1 S.2.1 dX5_append_23 ?_
  refine lv_topi (fun x_19 ex_19 => ?_)
  have ex_19 : x_19 = 8 := by rw [ex_19]; decide
  subst ex_19
  refine lv_lushr S.1 S.2.1 dX5_append_24 rfl ?_
  refine lv_topl (fun z_20 ez_20 => ?_)
  refine lv_l2i S.1 S.2.1 dX5_append_25 rfl ?_
  refine lv_topi (fun x_22 ex_22 => ?_)
  refine lv_sipush (v := 255) S.1 S.2.1 dX5_append_26 (by decide) ?_
  refine lv_iand S.1 S.2.1 dX5_append_29 ?_
  refine lv_topi (fun x_23 ex_23 => ?_)
  refine va_iast S.1 S.2.1 hK.1 hP hD hS 1 0 rfl rfl (by unfold vp_in; decide) dX5_append_30 (fun H locs hP hD hS => ?_)
  have hP : va_P D vwCl [(tp, .inr (5, [.ref by_, .int 2, .int 0, .int 0, .int 0, .int 0])), (by_, .inl (cI, 400, .inl (upd f_16 (2 : Int32).toNatClampNeg (x_23))))] H := hP
  have hD : va_D A [(tp, .inr (5, [.ref by_, .int 2, .int 0, .int 0, .int 0, .int 0])), (by_, .inl (cI, 400, .inl (upd f_16 (2 : Int32).toNatClampNeg (x_23))))] := hD
  generalize (upd f_16 (2 : Int32).toNatClampNeg (x_23)) = f_24 at hP hD
  refine lv_aload_n S.1 S.2.1 dX5_append_31 rfl (lv_at hl 1 rfl) ?_
  refine lv_dup S.1 S.2.1 dX5_append_32 rfl ?_
  refine b_get (v := .int 2) S iX5 hK hP 0 rfl rfl 1 (by decide) (by decide +kernel) rfl dX5_append_33 ?_
  refine lv_iconst (v := 1) S.1 S.2.1 dX5_append_36 (by decide) ?_
  refine lv_iadd S.1 S.2.1 dX5_append_37 ?_
  refine lv_topi (fun x_25 ex_25 => ?_)
  have ex_25 : x_25 = 3 := by rw [ex_25]; decide
  subst ex_25
  refine b_put (v := .int 3) S iX5 tyX5 tyX5_ok nmX5 hK hP hD hS 0 rfl rfl 1 (by decide) (by decide +kernel) rfl rfl rfl (Nat.le_of_ble_eq_true rfl) dX5_append_38 (fun H locs hP hD hS => ?_)
  have hP : va_P D vwCl [(tp, .inr (5, [.ref by_, .int 3, .int 0, .int 0, .int 0, .int 0])), (by_, .inl (cI, 400, .inl f_24))] H := hP
  have hD : va_D A [(tp, .inr (5, [.ref by_, .int 3, .int 0, .int 0, .int 0, .int 0])), (by_, .inl (cI, 400, .inl f_24))] := hD
  refine lv_iinc (v := 0) (lv' := [(4, .int 0), (0, .ref tp), (1, .long wv), (3, .int 4)]) S.1 S.2.1 dX5_append_41 hl (k := 0) rfl (by decide) (by decide) rfl (fun ls hl => ?_)
  refine lv_goto (tgt := 5) S.1 S.2.1 dX5_append_44 (by decide) ?_
  refine lv_iload S.1 S.2.1 dX5_append_5 (lv_at hl 0 rfl) ?_
  refine lv_if_lt (tgt := 47) S.1 S.2.1 dX5_append_7 (by decide) (fun c_26 => absurd c_26 (by decide)) (fun c_26 => ?_)
  refine lv_aload_n S.1 S.2.1 dX5_append_10 rfl (lv_at hl 1 rfl) ?_
  refine b_get (v := .ref by_) S iX5 hK hP 0 rfl rfl 0 (by decide) (by decide +kernel) rfl dX5_append_11 ?_
  refine lv_aload_n S.1 S.2.1 dX5_append_14 rfl (lv_at hl 1 rfl) ?_
  refine b_get (v := .int 3) S iX5 hK hP 0 rfl rfl 1 (by decide) (by decide +kernel) rfl dX5_append_15 ?_
  refine lv_lload_n S.1 S.2.1 dX5_append_18 rfl (lv_at hl 2 rfl) ?_
  refine lv_bipush (v := 8) S.1 S.2.1 dX5_append_19 (by decide) ?_
  refine lv_iload S.1 S.2.1 dX5_append_21 (lv_at hl 0 rfl) ?_
  refine lv_imul S.1 S.2.1 dX5_append_23 ?_
  refine lv_topi (fun x_27 ex_27 => ?_)
  have ex_27 : x_27 = 0 := by rw [ex_27]; decide
  subst ex_27
  refine lv_lushr S.1 S.2.1 dX5_append_24 rfl ?_
  refine lv_topl (fun z_28 ez_28 => ?_)
  refine lv_l2i S.1 S.2.1 dX5_append_25 rfl ?_
  refine lv_topi (fun x_30 ex_30 => ?_)
  refine lv_sipush (v := 255) S.1 S.2.1 dX5_append_26 (by decide) ?_
  refine lv_iand S.1 S.2.1 dX5_append_29 ?_
  refine lv_topi (fun x_31 ex_31 => ?_)
  refine va_iast S.1 S.2.1 hK.1 hP hD hS 1 0 rfl rfl (by unfold vp_in; decide) dX5_append_30 (fun H locs hP hD hS => ?_)
  have hP : va_P D vwCl [(tp, .inr (5, [.ref by_, .int 3, .int 0, .int 0, .int 0, .int 0])), (by_, .inl (cI, 400, .inl (upd f_24 (3 : Int32).toNatClampNeg (x_31))))] H := hP
  have hD : va_D A [(tp, .inr (5, [.ref by_, .int 3, .int 0, .int 0, .int 0, .int 0])), (by_, .inl (cI, 400, .inl (upd f_24 (3 : Int32).toNatClampNeg (x_31))))] := hD
  generalize (upd f_24 (3 : Int32).toNatClampNeg (x_31)) = f_32 at hP hD
  refine lv_aload_n S.1 S.2.1 dX5_append_31 rfl (lv_at hl 1 rfl) ?_
  refine lv_dup S.1 S.2.1 dX5_append_32 rfl ?_
  refine b_get (v := .int 3) S iX5 hK hP 0 rfl rfl 1 (by decide) (by decide +kernel) rfl dX5_append_33 ?_
  refine lv_iconst (v := 1) S.1 S.2.1 dX5_append_36 (by decide) ?_
  refine lv_iadd S.1 S.2.1 dX5_append_37 ?_
  refine lv_topi (fun x_33 ex_33 => ?_)
  have ex_33 : x_33 = 4 := by rw [ex_33]; decide
  subst ex_33
  refine b_put (v := .int 4) S iX5 tyX5 tyX5_ok nmX5 hK hP hD hS 0 rfl rfl 1 (by decide) (by decide +kernel) rfl rfl rfl (Nat.le_of_ble_eq_true rfl) dX5_append_38 (fun H locs hP hD hS => ?_)
  have hP : va_P D vwCl [(tp, .inr (5, [.ref by_, .int 4, .int 0, .int 0, .int 0, .int 0])), (by_, .inl (cI, 400, .inl f_32))] H := hP
  have hD : va_D A [(tp, .inr (5, [.ref by_, .int 4, .int 0, .int 0, .int 0, .int 0])), (by_, .inl (cI, 400, .inl f_32))] := hD
  refine lv_iinc (v := (-1)) (lv' := [(4, .int (-1)), (0, .ref tp), (1, .long wv), (3, .int 4)]) S.1 S.2.1 dX5_append_41 hl (k := 0) rfl (by decide) (by decide) rfl (fun ls hl => ?_)
  refine lv_goto (tgt := 5) S.1 S.2.1 dX5_append_44 (by decide) ?_
  refine lv_iload S.1 S.2.1 dX5_append_5 (lv_at hl 0 rfl) ?_
  refine lv_if_lt (tgt := 47) S.1 S.2.1 dX5_append_7 (by decide) (fun c_34 => ?_) (fun c_34 => absurd c_34 (by decide))
  have hP := hP.sub (ws' := [(tp, .inr (5, [.ref by_, .int 4, .int 0, .int 0, .int 0, .int 0]))]) [0] rfl
  have hD := hD.sub (ws' := [(tp, .inr (5, [.ref by_, .int 4, .int 0, .int 0, .int 0, .int 0]))]) [0] (by decide) rfl
  exact b_vret S.1 S.2.1 X.2.1 X.2.2.1 hP hD hS rfl dX5_append_47
set_option maxHeartbeats 4000000 in
set_option maxRecDepth 100000 in
theorem c_X5_append_5 (l : Launch) (D : va_G) (cI cZ cC cS : ClassId) (sq sz : Nat) (tp : Nat) (by_ : Nat) (f : Nat → Int32) (wv : Int64) : mV l yX5_append wsX5_append 0 0 0 0 D (tyW cI cZ cC cS) sq [(tp, .inr (5, [.ref by_, .int 0, .int 0, .int 0, .int 0, .int 0])), (by_, .inl (cI, 400, .inl f))] sz [.ref tp, .long wv, .int 5] (fun w => w = [(tp, .inr (5, [.ref by_, .int 5, .int 0, .int 0, .int 0, .int 0]))]) := by
  refine b_metV (cc := cX5_append) (maxL := 5) (ret := none) (by decide) rfl (Nat.le_of_ble_eq_true rfl) ?_
  intro p e s m below meth c ls A H X hsz hP hK hD hA hS hl
  have S : CallFix p m c cX5_append 5 s ([.ref tp, .long wv, .int 5] : List Value).toArray wsX5_append RX5 := X.1
  have hl : lv_has ls 5 [(0, .ref tp), (1, .long wv), (3, .int 5)] := hl
  have iX5 := jX5_append_X5
  refine lv_iload_n S.1 S.2.1 dX5_append_0 rfl (lv_at hl 2 rfl) ?_
  refine lv_iconst (v := 1) S.1 S.2.1 dX5_append_1 (by decide) ?_
  refine lv_isub S.1 S.2.1 dX5_append_2 ?_
  refine lv_topi (fun x_1 ex_1 => ?_)
  have ex_1 : x_1 = 4 := by rw [ex_1]; decide
  subst ex_1
  refine lv_istore (lv' := [(4, .int 4), (0, .ref tp), (1, .long wv), (3, .int 5)]) S.1 S.2.1 dX5_append_3 hl (by decide) rfl (fun ls hl => ?_)
  refine lv_iload S.1 S.2.1 dX5_append_5 (lv_at hl 0 rfl) ?_
  refine lv_if_lt (tgt := 47) S.1 S.2.1 dX5_append_7 (by decide) (fun c_2 => absurd c_2 (by decide)) (fun c_2 => ?_)
  refine lv_aload_n S.1 S.2.1 dX5_append_10 rfl (lv_at hl 1 rfl) ?_
  refine b_get (v := .ref by_) S iX5 hK hP 0 rfl rfl 0 (by decide) (by decide +kernel) rfl dX5_append_11 ?_
  refine lv_aload_n S.1 S.2.1 dX5_append_14 rfl (lv_at hl 1 rfl) ?_
  refine b_get (v := .int 0) S iX5 hK hP 0 rfl rfl 1 (by decide) (by decide +kernel) rfl dX5_append_15 ?_
  refine lv_lload_n S.1 S.2.1 dX5_append_18 rfl (lv_at hl 2 rfl) ?_
  refine lv_bipush (v := 8) S.1 S.2.1 dX5_append_19 (by decide) ?_
  refine lv_iload S.1 S.2.1 dX5_append_21 (lv_at hl 0 rfl) ?_
  refine lv_imul S.1 S.2.1 dX5_append_23 ?_
  refine lv_topi (fun x_3 ex_3 => ?_)
  have ex_3 : x_3 = 32 := by rw [ex_3]; decide
  subst ex_3
  refine lv_lushr S.1 S.2.1 dX5_append_24 rfl ?_
  refine lv_topl (fun z_4 ez_4 => ?_)
  refine lv_l2i S.1 S.2.1 dX5_append_25 rfl ?_
  refine lv_topi (fun x_6 ex_6 => ?_)
  refine lv_sipush (v := 255) S.1 S.2.1 dX5_append_26 (by decide) ?_
  refine lv_iand S.1 S.2.1 dX5_append_29 ?_
  refine lv_topi (fun x_7 ex_7 => ?_)
  refine va_iast S.1 S.2.1 hK.1 hP hD hS 1 0 rfl rfl (by unfold vp_in; decide) dX5_append_30 (fun H locs hP hD hS => ?_)
  have hP : va_P D vwCl [(tp, .inr (5, [.ref by_, .int 0, .int 0, .int 0, .int 0, .int 0])), (by_, .inl (cI, 400, .inl (upd f (0 : Int32).toNatClampNeg (x_7))))] H := hP
  have hD : va_D A [(tp, .inr (5, [.ref by_, .int 0, .int 0, .int 0, .int 0, .int 0])), (by_, .inl (cI, 400, .inl (upd f (0 : Int32).toNatClampNeg (x_7))))] := hD
  generalize (upd f (0 : Int32).toNatClampNeg (x_7)) = f_8 at hP hD
  refine lv_aload_n S.1 S.2.1 dX5_append_31 rfl (lv_at hl 1 rfl) ?_
  refine lv_dup S.1 S.2.1 dX5_append_32 rfl ?_
  refine b_get (v := .int 0) S iX5 hK hP 0 rfl rfl 1 (by decide) (by decide +kernel) rfl dX5_append_33 ?_
  refine lv_iconst (v := 1) S.1 S.2.1 dX5_append_36 (by decide) ?_
  refine lv_iadd S.1 S.2.1 dX5_append_37 ?_
  refine lv_topi (fun x_9 ex_9 => ?_)
  have ex_9 : x_9 = 1 := by rw [ex_9]; decide
  subst ex_9
  refine b_put (v := .int 1) S iX5 tyX5 tyX5_ok nmX5 hK hP hD hS 0 rfl rfl 1 (by decide) (by decide +kernel) rfl rfl rfl (Nat.le_of_ble_eq_true rfl) dX5_append_38 (fun H locs hP hD hS => ?_)
  have hP : va_P D vwCl [(tp, .inr (5, [.ref by_, .int 1, .int 0, .int 0, .int 0, .int 0])), (by_, .inl (cI, 400, .inl f_8))] H := hP
  have hD : va_D A [(tp, .inr (5, [.ref by_, .int 1, .int 0, .int 0, .int 0, .int 0])), (by_, .inl (cI, 400, .inl f_8))] := hD
  refine lv_iinc (v := 3) (lv' := [(4, .int 3), (0, .ref tp), (1, .long wv), (3, .int 5)]) S.1 S.2.1 dX5_append_41 hl (k := 0) rfl (by decide) (by decide) rfl (fun ls hl => ?_)
  refine lv_goto (tgt := 5) S.1 S.2.1 dX5_append_44 (by decide) ?_
  refine lv_iload S.1 S.2.1 dX5_append_5 (lv_at hl 0 rfl) ?_
  refine lv_if_lt (tgt := 47) S.1 S.2.1 dX5_append_7 (by decide) (fun c_10 => absurd c_10 (by decide)) (fun c_10 => ?_)
  refine lv_aload_n S.1 S.2.1 dX5_append_10 rfl (lv_at hl 1 rfl) ?_
  refine b_get (v := .ref by_) S iX5 hK hP 0 rfl rfl 0 (by decide) (by decide +kernel) rfl dX5_append_11 ?_
  refine lv_aload_n S.1 S.2.1 dX5_append_14 rfl (lv_at hl 1 rfl) ?_
  refine b_get (v := .int 1) S iX5 hK hP 0 rfl rfl 1 (by decide) (by decide +kernel) rfl dX5_append_15 ?_
  refine lv_lload_n S.1 S.2.1 dX5_append_18 rfl (lv_at hl 2 rfl) ?_
  refine lv_bipush (v := 8) S.1 S.2.1 dX5_append_19 (by decide) ?_
  refine lv_iload S.1 S.2.1 dX5_append_21 (lv_at hl 0 rfl) ?_
  refine lv_imul S.1 S.2.1 dX5_append_23 ?_
  refine lv_topi (fun x_11 ex_11 => ?_)
  have ex_11 : x_11 = 24 := by rw [ex_11]; decide
  subst ex_11
  refine lv_lushr S.1 S.2.1 dX5_append_24 rfl ?_
  refine lv_topl (fun z_12 ez_12 => ?_)
  refine lv_l2i S.1 S.2.1 dX5_append_25 rfl ?_
  refine lv_topi (fun x_14 ex_14 => ?_)
  refine lv_sipush (v := 255) S.1 S.2.1 dX5_append_26 (by decide) ?_
  refine lv_iand S.1 S.2.1 dX5_append_29 ?_
  refine lv_topi (fun x_15 ex_15 => ?_)
  refine va_iast S.1 S.2.1 hK.1 hP hD hS 1 0 rfl rfl (by unfold vp_in; decide) dX5_append_30 (fun H locs hP hD hS => ?_)
  have hP : va_P D vwCl [(tp, .inr (5, [.ref by_, .int 1, .int 0, .int 0, .int 0, .int 0])), (by_, .inl (cI, 400, .inl (upd f_8 (1 : Int32).toNatClampNeg (x_15))))] H := hP
  have hD : va_D A [(tp, .inr (5, [.ref by_, .int 1, .int 0, .int 0, .int 0, .int 0])), (by_, .inl (cI, 400, .inl (upd f_8 (1 : Int32).toNatClampNeg (x_15))))] := hD
  generalize (upd f_8 (1 : Int32).toNatClampNeg (x_15)) = f_16 at hP hD
  refine lv_aload_n S.1 S.2.1 dX5_append_31 rfl (lv_at hl 1 rfl) ?_
  refine lv_dup S.1 S.2.1 dX5_append_32 rfl ?_
  refine b_get (v := .int 1) S iX5 hK hP 0 rfl rfl 1 (by decide) (by decide +kernel) rfl dX5_append_33 ?_
  refine lv_iconst (v := 1) S.1 S.2.1 dX5_append_36 (by decide) ?_
  refine lv_iadd S.1 S.2.1 dX5_append_37 ?_
  refine lv_topi (fun x_17 ex_17 => ?_)
  have ex_17 : x_17 = 2 := by rw [ex_17]; decide
  subst ex_17
  refine b_put (v := .int 2) S iX5 tyX5 tyX5_ok nmX5 hK hP hD hS 0 rfl rfl 1 (by decide) (by decide +kernel) rfl rfl rfl (Nat.le_of_ble_eq_true rfl) dX5_append_38 (fun H locs hP hD hS => ?_)
  have hP : va_P D vwCl [(tp, .inr (5, [.ref by_, .int 2, .int 0, .int 0, .int 0, .int 0])), (by_, .inl (cI, 400, .inl f_16))] H := hP
  have hD : va_D A [(tp, .inr (5, [.ref by_, .int 2, .int 0, .int 0, .int 0, .int 0])), (by_, .inl (cI, 400, .inl f_16))] := hD
  refine lv_iinc (v := 2) (lv' := [(4, .int 2), (0, .ref tp), (1, .long wv), (3, .int 5)]) S.1 S.2.1 dX5_append_41 hl (k := 0) rfl (by decide) (by decide) rfl (fun ls hl => ?_)
  refine lv_goto (tgt := 5) S.1 S.2.1 dX5_append_44 (by decide) ?_
  refine lv_iload S.1 S.2.1 dX5_append_5 (lv_at hl 0 rfl) ?_
  refine lv_if_lt (tgt := 47) S.1 S.2.1 dX5_append_7 (by decide) (fun c_18 => absurd c_18 (by decide)) (fun c_18 => ?_)
  refine lv_aload_n S.1 S.2.1 dX5_append_10 rfl (lv_at hl 1 rfl) ?_
  refine b_get (v := .ref by_) S iX5 hK hP 0 rfl rfl 0 (by decide) (by decide +kernel) rfl dX5_append_11 ?_
  refine lv_aload_n S.1 S.2.1 dX5_append_14 rfl (lv_at hl 1 rfl) ?_
  refine b_get (v := .int 2) S iX5 hK hP 0 rfl rfl 1 (by decide) (by decide +kernel) rfl dX5_append_15 ?_
  refine lv_lload_n S.1 S.2.1 dX5_append_18 rfl (lv_at hl 2 rfl) ?_
  refine lv_bipush (v := 8) S.1 S.2.1 dX5_append_19 (by decide) ?_
  refine lv_iload S.1 S.2.1 dX5_append_21 (lv_at hl 0 rfl) ?_
  refine lv_imul S.1 S.2.1 dX5_append_23 ?_
  refine lv_topi (fun x_19 ex_19 => ?_)
  have ex_19 : x_19 = 16 := by rw [ex_19]; decide
  subst ex_19
  refine lv_lushr S.1 S.2.1 dX5_append_24 rfl ?_
  refine lv_topl (fun z_20 ez_20 => ?_)
  refine lv_l2i S.1 S.2.1 dX5_append_25 rfl ?_
  refine lv_topi (fun x_22 ex_22 => ?_)
  refine lv_sipush (v := 255) S.1 S.2.1 dX5_append_26 (by decide) ?_
  refine lv_iand S.1 S.2.1 dX5_append_29 ?_
  refine lv_topi (fun x_23 ex_23 => ?_)
  refine va_iast S.1 S.2.1 hK.1 hP hD hS 1 0 rfl rfl (by unfold vp_in; decide) dX5_append_30 (fun H locs hP hD hS => ?_)
  have hP : va_P D vwCl [(tp, .inr (5, [.ref by_, .int 2, .int 0, .int 0, .int 0, .int 0])), (by_, .inl (cI, 400, .inl (upd f_16 (2 : Int32).toNatClampNeg (x_23))))] H := hP
  have hD : va_D A [(tp, .inr (5, [.ref by_, .int 2, .int 0, .int 0, .int 0, .int 0])), (by_, .inl (cI, 400, .inl (upd f_16 (2 : Int32).toNatClampNeg (x_23))))] := hD
  generalize (upd f_16 (2 : Int32).toNatClampNeg (x_23)) = f_24 at hP hD
  refine lv_aload_n S.1 S.2.1 dX5_append_31 rfl (lv_at hl 1 rfl) ?_
  refine lv_dup S.1 S.2.1 dX5_append_32 rfl ?_
  refine b_get (v := .int 2) S iX5 hK hP 0 rfl rfl 1 (by decide) (by decide +kernel) rfl dX5_append_33 ?_
  refine lv_iconst (v := 1) S.1 S.2.1 dX5_append_36 (by decide) ?_
  refine lv_iadd S.1 S.2.1 dX5_append_37 ?_
  refine lv_topi (fun x_25 ex_25 => ?_)
  have ex_25 : x_25 = 3 := by rw [ex_25]; decide
  subst ex_25
  refine b_put (v := .int 3) S iX5 tyX5 tyX5_ok nmX5 hK hP hD hS 0 rfl rfl 1 (by decide) (by decide +kernel) rfl rfl rfl (Nat.le_of_ble_eq_true rfl) dX5_append_38 (fun H locs hP hD hS => ?_)
  have hP : va_P D vwCl [(tp, .inr (5, [.ref by_, .int 3, .int 0, .int 0, .int 0, .int 0])), (by_, .inl (cI, 400, .inl f_24))] H := hP
  have hD : va_D A [(tp, .inr (5, [.ref by_, .int 3, .int 0, .int 0, .int 0, .int 0])), (by_, .inl (cI, 400, .inl f_24))] := hD
  refine lv_iinc (v := 1) (lv' := [(4, .int 1), (0, .ref tp), (1, .long wv), (3, .int 5)]) S.1 S.2.1 dX5_append_41 hl (k := 0) rfl (by decide) (by decide) rfl (fun ls hl => ?_)
  refine lv_goto (tgt := 5) S.1 S.2.1 dX5_append_44 (by decide) ?_
  refine lv_iload S.1 S.2.1 dX5_append_5 (lv_at hl 0 rfl) ?_
  refine lv_if_lt (tgt := 47) S.1 S.2.1 dX5_append_7 (by decide) (fun c_26 => absurd c_26 (by decide)) (fun c_26 => ?_)
  refine lv_aload_n S.1 S.2.1 dX5_append_10 rfl (lv_at hl 1 rfl) ?_
  refine b_get (v := .ref by_) S iX5 hK hP 0 rfl rfl 0 (by decide) (by decide +kernel) rfl dX5_append_11 ?_
  refine lv_aload_n S.1 S.2.1 dX5_append_14 rfl (lv_at hl 1 rfl) ?_
  refine b_get (v := .int 3) S iX5 hK hP 0 rfl rfl 1 (by decide) (by decide +kernel) rfl dX5_append_15 ?_
  refine lv_lload_n S.1 S.2.1 dX5_append_18 rfl (lv_at hl 2 rfl) ?_
  refine lv_bipush (v := 8) S.1 S.2.1 dX5_append_19 (by decide) ?_
  refine lv_iload S.1 S.2.1 dX5_append_21 (lv_at hl 0 rfl) ?_
  refine lv_imul S.1 S.2.1 dX5_append_23 ?_
  refine lv_topi (fun x_27 ex_27 => ?_)
  have ex_27 : x_27 = 8 := by rw [ex_27]; decide
  subst ex_27
  refine lv_lushr S.1 S.2.1 dX5_append_24 rfl ?_
  refine lv_topl (fun z_28 ez_28 => ?_)
  refine lv_l2i S.1 S.2.1 dX5_append_25 rfl ?_
  refine lv_topi (fun x_30 ex_30 => ?_)
  refine lv_sipush (v := 255) S.1 S.2.1 dX5_append_26 (by decide) ?_
  refine lv_iand S.1 S.2.1 dX5_append_29 ?_
  refine lv_topi (fun x_31 ex_31 => ?_)
  refine va_iast S.1 S.2.1 hK.1 hP hD hS 1 0 rfl rfl (by unfold vp_in; decide) dX5_append_30 (fun H locs hP hD hS => ?_)
  have hP : va_P D vwCl [(tp, .inr (5, [.ref by_, .int 3, .int 0, .int 0, .int 0, .int 0])), (by_, .inl (cI, 400, .inl (upd f_24 (3 : Int32).toNatClampNeg (x_31))))] H := hP
  have hD : va_D A [(tp, .inr (5, [.ref by_, .int 3, .int 0, .int 0, .int 0, .int 0])), (by_, .inl (cI, 400, .inl (upd f_24 (3 : Int32).toNatClampNeg (x_31))))] := hD
  generalize (upd f_24 (3 : Int32).toNatClampNeg (x_31)) = f_32 at hP hD
  refine lv_aload_n S.1 S.2.1 dX5_append_31 rfl (lv_at hl 1 rfl) ?_
  refine lv_dup S.1 S.2.1 dX5_append_32 rfl ?_
  refine b_get (v := .int 3) S iX5 hK hP 0 rfl rfl 1 (by decide) (by decide +kernel) rfl dX5_append_33 ?_
  refine lv_iconst (v := 1) S.1 S.2.1 dX5_append_36 (by decide) ?_
  refine lv_iadd S.1 S.2.1 dX5_append_37 ?_
  refine lv_topi (fun x_33 ex_33 => ?_)
  have ex_33 : x_33 = 4 := by rw [ex_33]; decide
  subst ex_33
  refine b_put (v := .int 4) S iX5 tyX5 tyX5_ok nmX5 hK hP hD hS 0 rfl rfl 1 (by decide) (by decide +kernel) rfl rfl rfl (Nat.le_of_ble_eq_true rfl) dX5_append_38 (fun H locs hP hD hS => ?_)
  have hP : va_P D vwCl [(tp, .inr (5, [.ref by_, .int 4, .int 0, .int 0, .int 0, .int 0])), (by_, .inl (cI, 400, .inl f_32))] H := hP
  have hD : va_D A [(tp, .inr (5, [.ref by_, .int 4, .int 0, .int 0, .int 0, .int 0])), (by_, .inl (cI, 400, .inl f_32))] := hD
  refine lv_iinc (v := 0) (lv' := [(4, .int 0), (0, .ref tp), (1, .long wv), (3, .int 5)]) S.1 S.2.1 dX5_append_41 hl (k := 0) rfl (by decide) (by decide) rfl (fun ls hl => ?_)
  refine lv_goto (tgt := 5) S.1 S.2.1 dX5_append_44 (by decide) ?_
  refine lv_iload S.1 S.2.1 dX5_append_5 (lv_at hl 0 rfl) ?_
  refine lv_if_lt (tgt := 47) S.1 S.2.1 dX5_append_7 (by decide) (fun c_34 => absurd c_34 (by decide)) (fun c_34 => ?_)
  refine lv_aload_n S.1 S.2.1 dX5_append_10 rfl (lv_at hl 1 rfl) ?_
  refine b_get (v := .ref by_) S iX5 hK hP 0 rfl rfl 0 (by decide) (by decide +kernel) rfl dX5_append_11 ?_
  refine lv_aload_n S.1 S.2.1 dX5_append_14 rfl (lv_at hl 1 rfl) ?_
  refine b_get (v := .int 4) S iX5 hK hP 0 rfl rfl 1 (by decide) (by decide +kernel) rfl dX5_append_15 ?_
  refine lv_lload_n S.1 S.2.1 dX5_append_18 rfl (lv_at hl 2 rfl) ?_
  refine lv_bipush (v := 8) S.1 S.2.1 dX5_append_19 (by decide) ?_
  refine lv_iload S.1 S.2.1 dX5_append_21 (lv_at hl 0 rfl) ?_
  refine lv_imul S.1 S.2.1 dX5_append_23 ?_
  refine lv_topi (fun x_35 ex_35 => ?_)
  have ex_35 : x_35 = 0 := by rw [ex_35]; decide
  subst ex_35
  refine lv_lushr S.1 S.2.1 dX5_append_24 rfl ?_
  refine lv_topl (fun z_36 ez_36 => ?_)
  refine lv_l2i S.1 S.2.1 dX5_append_25 rfl ?_
  refine lv_topi (fun x_38 ex_38 => ?_)
  refine lv_sipush (v := 255) S.1 S.2.1 dX5_append_26 (by decide) ?_
  refine lv_iand S.1 S.2.1 dX5_append_29 ?_
  refine lv_topi (fun x_39 ex_39 => ?_)
  refine va_iast S.1 S.2.1 hK.1 hP hD hS 1 0 rfl rfl (by unfold vp_in; decide) dX5_append_30 (fun H locs hP hD hS => ?_)
  have hP : va_P D vwCl [(tp, .inr (5, [.ref by_, .int 4, .int 0, .int 0, .int 0, .int 0])), (by_, .inl (cI, 400, .inl (upd f_32 (4 : Int32).toNatClampNeg (x_39))))] H := hP
  have hD : va_D A [(tp, .inr (5, [.ref by_, .int 4, .int 0, .int 0, .int 0, .int 0])), (by_, .inl (cI, 400, .inl (upd f_32 (4 : Int32).toNatClampNeg (x_39))))] := hD
  generalize (upd f_32 (4 : Int32).toNatClampNeg (x_39)) = f_40 at hP hD
  refine lv_aload_n S.1 S.2.1 dX5_append_31 rfl (lv_at hl 1 rfl) ?_
  refine lv_dup S.1 S.2.1 dX5_append_32 rfl ?_
  refine b_get (v := .int 4) S iX5 hK hP 0 rfl rfl 1 (by decide) (by decide +kernel) rfl dX5_append_33 ?_
  refine lv_iconst (v := 1) S.1 S.2.1 dX5_append_36 (by decide) ?_
  refine lv_iadd S.1 S.2.1 dX5_append_37 ?_
  refine lv_topi (fun x_41 ex_41 => ?_)
  have ex_41 : x_41 = 5 := by rw [ex_41]; decide
  subst ex_41
  refine b_put (v := .int 5) S iX5 tyX5 tyX5_ok nmX5 hK hP hD hS 0 rfl rfl 1 (by decide) (by decide +kernel) rfl rfl rfl (Nat.le_of_ble_eq_true rfl) dX5_append_38 (fun H locs hP hD hS => ?_)
  have hP : va_P D vwCl [(tp, .inr (5, [.ref by_, .int 5, .int 0, .int 0, .int 0, .int 0])), (by_, .inl (cI, 400, .inl f_40))] H := hP
  have hD : va_D A [(tp, .inr (5, [.ref by_, .int 5, .int 0, .int 0, .int 0, .int 0])), (by_, .inl (cI, 400, .inl f_40))] := hD
  refine lv_iinc (v := (-1)) (lv' := [(4, .int (-1)), (0, .ref tp), (1, .long wv), (3, .int 5)]) S.1 S.2.1 dX5_append_41 hl (k := 0) rfl (by decide) (by decide) rfl (fun ls hl => ?_)
  refine lv_goto (tgt := 5) S.1 S.2.1 dX5_append_44 (by decide) ?_
  refine lv_iload S.1 S.2.1 dX5_append_5 (lv_at hl 0 rfl) ?_
  refine lv_if_lt (tgt := 47) S.1 S.2.1 dX5_append_7 (by decide) (fun c_42 => ?_) (fun c_42 => absurd c_42 (by decide))
  have hP := hP.sub (ws' := [(tp, .inr (5, [.ref by_, .int 5, .int 0, .int 0, .int 0, .int 0]))]) [0] rfl
  have hD := hD.sub (ws' := [(tp, .inr (5, [.ref by_, .int 5, .int 0, .int 0, .int 0, .int 0]))]) [0] (by decide) rfl
  exact b_vret S.1 S.2.1 X.2.1 X.2.2.1 hP hD hS rfl dX5_append_47
set_option maxHeartbeats 4000000 in
set_option maxRecDepth 100000 in
theorem c_X5_append_6 (l : Launch) (D : va_G) (cI cZ cC cS : ClassId) (sq sz : Nat) (tp : Nat) (by_ : Nat) (f : Nat → Int32) (wv : Int64) : mV l yX5_append wsX5_append 0 0 0 0 D (tyW cI cZ cC cS) sq [(tp, .inr (5, [.ref by_, .int 0, .int 0, .int 0, .int 0, .int 0])), (by_, .inl (cI, 400, .inl f))] sz [.ref tp, .long wv, .int 6] (fun w => w = [(tp, .inr (5, [.ref by_, .int 6, .int 0, .int 0, .int 0, .int 0]))]) := by
  refine b_metV (cc := cX5_append) (maxL := 5) (ret := none) (by decide) rfl (Nat.le_of_ble_eq_true rfl) ?_
  intro p e s m below meth c ls A H X hsz hP hK hD hA hS hl
  have S : CallFix p m c cX5_append 5 s ([.ref tp, .long wv, .int 6] : List Value).toArray wsX5_append RX5 := X.1
  have hl : lv_has ls 5 [(0, .ref tp), (1, .long wv), (3, .int 6)] := hl
  have iX5 := jX5_append_X5
  refine lv_iload_n S.1 S.2.1 dX5_append_0 rfl (lv_at hl 2 rfl) ?_
  refine lv_iconst (v := 1) S.1 S.2.1 dX5_append_1 (by decide) ?_
  refine lv_isub S.1 S.2.1 dX5_append_2 ?_
  refine lv_topi (fun x_1 ex_1 => ?_)
  have ex_1 : x_1 = 5 := by rw [ex_1]; decide
  subst ex_1
  refine lv_istore (lv' := [(4, .int 5), (0, .ref tp), (1, .long wv), (3, .int 6)]) S.1 S.2.1 dX5_append_3 hl (by decide) rfl (fun ls hl => ?_)
  refine lv_iload S.1 S.2.1 dX5_append_5 (lv_at hl 0 rfl) ?_
  refine lv_if_lt (tgt := 47) S.1 S.2.1 dX5_append_7 (by decide) (fun c_2 => absurd c_2 (by decide)) (fun c_2 => ?_)
  refine lv_aload_n S.1 S.2.1 dX5_append_10 rfl (lv_at hl 1 rfl) ?_
  refine b_get (v := .ref by_) S iX5 hK hP 0 rfl rfl 0 (by decide) (by decide +kernel) rfl dX5_append_11 ?_
  refine lv_aload_n S.1 S.2.1 dX5_append_14 rfl (lv_at hl 1 rfl) ?_
  refine b_get (v := .int 0) S iX5 hK hP 0 rfl rfl 1 (by decide) (by decide +kernel) rfl dX5_append_15 ?_
  refine lv_lload_n S.1 S.2.1 dX5_append_18 rfl (lv_at hl 2 rfl) ?_
  refine lv_bipush (v := 8) S.1 S.2.1 dX5_append_19 (by decide) ?_
  refine lv_iload S.1 S.2.1 dX5_append_21 (lv_at hl 0 rfl) ?_
  refine lv_imul S.1 S.2.1 dX5_append_23 ?_
  refine lv_topi (fun x_3 ex_3 => ?_)
  have ex_3 : x_3 = 40 := by rw [ex_3]; decide
  subst ex_3
  refine lv_lushr S.1 S.2.1 dX5_append_24 rfl ?_
  refine lv_topl (fun z_4 ez_4 => ?_)
  refine lv_l2i S.1 S.2.1 dX5_append_25 rfl ?_
  refine lv_topi (fun x_6 ex_6 => ?_)
  refine lv_sipush (v := 255) S.1 S.2.1 dX5_append_26 (by decide) ?_
  refine lv_iand S.1 S.2.1 dX5_append_29 ?_
  refine lv_topi (fun x_7 ex_7 => ?_)
  refine va_iast S.1 S.2.1 hK.1 hP hD hS 1 0 rfl rfl (by unfold vp_in; decide) dX5_append_30 (fun H locs hP hD hS => ?_)
  have hP : va_P D vwCl [(tp, .inr (5, [.ref by_, .int 0, .int 0, .int 0, .int 0, .int 0])), (by_, .inl (cI, 400, .inl (upd f (0 : Int32).toNatClampNeg (x_7))))] H := hP
  have hD : va_D A [(tp, .inr (5, [.ref by_, .int 0, .int 0, .int 0, .int 0, .int 0])), (by_, .inl (cI, 400, .inl (upd f (0 : Int32).toNatClampNeg (x_7))))] := hD
  generalize (upd f (0 : Int32).toNatClampNeg (x_7)) = f_8 at hP hD
  refine lv_aload_n S.1 S.2.1 dX5_append_31 rfl (lv_at hl 1 rfl) ?_
  refine lv_dup S.1 S.2.1 dX5_append_32 rfl ?_
  refine b_get (v := .int 0) S iX5 hK hP 0 rfl rfl 1 (by decide) (by decide +kernel) rfl dX5_append_33 ?_
  refine lv_iconst (v := 1) S.1 S.2.1 dX5_append_36 (by decide) ?_
  refine lv_iadd S.1 S.2.1 dX5_append_37 ?_
  refine lv_topi (fun x_9 ex_9 => ?_)
  have ex_9 : x_9 = 1 := by rw [ex_9]; decide
  subst ex_9
  refine b_put (v := .int 1) S iX5 tyX5 tyX5_ok nmX5 hK hP hD hS 0 rfl rfl 1 (by decide) (by decide +kernel) rfl rfl rfl (Nat.le_of_ble_eq_true rfl) dX5_append_38 (fun H locs hP hD hS => ?_)
  have hP : va_P D vwCl [(tp, .inr (5, [.ref by_, .int 1, .int 0, .int 0, .int 0, .int 0])), (by_, .inl (cI, 400, .inl f_8))] H := hP
  have hD : va_D A [(tp, .inr (5, [.ref by_, .int 1, .int 0, .int 0, .int 0, .int 0])), (by_, .inl (cI, 400, .inl f_8))] := hD
  refine lv_iinc (v := 4) (lv' := [(4, .int 4), (0, .ref tp), (1, .long wv), (3, .int 6)]) S.1 S.2.1 dX5_append_41 hl (k := 0) rfl (by decide) (by decide) rfl (fun ls hl => ?_)
  refine lv_goto (tgt := 5) S.1 S.2.1 dX5_append_44 (by decide) ?_
  refine lv_iload S.1 S.2.1 dX5_append_5 (lv_at hl 0 rfl) ?_
  refine lv_if_lt (tgt := 47) S.1 S.2.1 dX5_append_7 (by decide) (fun c_10 => absurd c_10 (by decide)) (fun c_10 => ?_)
  refine lv_aload_n S.1 S.2.1 dX5_append_10 rfl (lv_at hl 1 rfl) ?_
  refine b_get (v := .ref by_) S iX5 hK hP 0 rfl rfl 0 (by decide) (by decide +kernel) rfl dX5_append_11 ?_
  refine lv_aload_n S.1 S.2.1 dX5_append_14 rfl (lv_at hl 1 rfl) ?_
  refine b_get (v := .int 1) S iX5 hK hP 0 rfl rfl 1 (by decide) (by decide +kernel) rfl dX5_append_15 ?_
  refine lv_lload_n S.1 S.2.1 dX5_append_18 rfl (lv_at hl 2 rfl) ?_
  refine lv_bipush (v := 8) S.1 S.2.1 dX5_append_19 (by decide) ?_
  refine lv_iload S.1 S.2.1 dX5_append_21 (lv_at hl 0 rfl) ?_
  refine lv_imul S.1 S.2.1 dX5_append_23 ?_
  refine lv_topi (fun x_11 ex_11 => ?_)
  have ex_11 : x_11 = 32 := by rw [ex_11]; decide
  subst ex_11
  refine lv_lushr S.1 S.2.1 dX5_append_24 rfl ?_
  refine lv_topl (fun z_12 ez_12 => ?_)
  refine lv_l2i S.1 S.2.1 dX5_append_25 rfl ?_
  refine lv_topi (fun x_14 ex_14 => ?_)
  refine lv_sipush (v := 255) S.1 S.2.1 dX5_append_26 (by decide) ?_
  refine lv_iand S.1 S.2.1 dX5_append_29 ?_
  refine lv_topi (fun x_15 ex_15 => ?_)
  refine va_iast S.1 S.2.1 hK.1 hP hD hS 1 0 rfl rfl (by unfold vp_in; decide) dX5_append_30 (fun H locs hP hD hS => ?_)
  have hP : va_P D vwCl [(tp, .inr (5, [.ref by_, .int 1, .int 0, .int 0, .int 0, .int 0])), (by_, .inl (cI, 400, .inl (upd f_8 (1 : Int32).toNatClampNeg (x_15))))] H := hP
  have hD : va_D A [(tp, .inr (5, [.ref by_, .int 1, .int 0, .int 0, .int 0, .int 0])), (by_, .inl (cI, 400, .inl (upd f_8 (1 : Int32).toNatClampNeg (x_15))))] := hD
  generalize (upd f_8 (1 : Int32).toNatClampNeg (x_15)) = f_16 at hP hD
  refine lv_aload_n S.1 S.2.1 dX5_append_31 rfl (lv_at hl 1 rfl) ?_
  refine lv_dup S.1 S.2.1 dX5_append_32 rfl ?_
  refine b_get (v := .int 1) S iX5 hK hP 0 rfl rfl 1 (by decide) (by decide +kernel) rfl dX5_append_33 ?_
  refine lv_iconst (v := 1) S.1 S.2.1 dX5_append_36 (by decide) ?_
  refine lv_iadd S.1 S.2.1 dX5_append_37 ?_
  refine lv_topi (fun x_17 ex_17 => ?_)
  have ex_17 : x_17 = 2 := by rw [ex_17]; decide
  subst ex_17
  refine b_put (v := .int 2) S iX5 tyX5 tyX5_ok nmX5 hK hP hD hS 0 rfl rfl 1 (by decide) (by decide +kernel) rfl rfl rfl (Nat.le_of_ble_eq_true rfl) dX5_append_38 (fun H locs hP hD hS => ?_)
  have hP : va_P D vwCl [(tp, .inr (5, [.ref by_, .int 2, .int 0, .int 0, .int 0, .int 0])), (by_, .inl (cI, 400, .inl f_16))] H := hP
  have hD : va_D A [(tp, .inr (5, [.ref by_, .int 2, .int 0, .int 0, .int 0, .int 0])), (by_, .inl (cI, 400, .inl f_16))] := hD
  refine lv_iinc (v := 3) (lv' := [(4, .int 3), (0, .ref tp), (1, .long wv), (3, .int 6)]) S.1 S.2.1 dX5_append_41 hl (k := 0) rfl (by decide) (by decide) rfl (fun ls hl => ?_)
  refine lv_goto (tgt := 5) S.1 S.2.1 dX5_append_44 (by decide) ?_
  refine lv_iload S.1 S.2.1 dX5_append_5 (lv_at hl 0 rfl) ?_
  refine lv_if_lt (tgt := 47) S.1 S.2.1 dX5_append_7 (by decide) (fun c_18 => absurd c_18 (by decide)) (fun c_18 => ?_)
  refine lv_aload_n S.1 S.2.1 dX5_append_10 rfl (lv_at hl 1 rfl) ?_
  refine b_get (v := .ref by_) S iX5 hK hP 0 rfl rfl 0 (by decide) (by decide +kernel) rfl dX5_append_11 ?_
  refine lv_aload_n S.1 S.2.1 dX5_append_14 rfl (lv_at hl 1 rfl) ?_
  refine b_get (v := .int 2) S iX5 hK hP 0 rfl rfl 1 (by decide) (by decide +kernel) rfl dX5_append_15 ?_
  refine lv_lload_n S.1 S.2.1 dX5_append_18 rfl (lv_at hl 2 rfl) ?_
  refine lv_bipush (v := 8) S.1 S.2.1 dX5_append_19 (by decide) ?_
  refine lv_iload S.1 S.2.1 dX5_append_21 (lv_at hl 0 rfl) ?_
  refine lv_imul S.1 S.2.1 dX5_append_23 ?_
  refine lv_topi (fun x_19 ex_19 => ?_)
  have ex_19 : x_19 = 24 := by rw [ex_19]; decide
  subst ex_19
  refine lv_lushr S.1 S.2.1 dX5_append_24 rfl ?_
  refine lv_topl (fun z_20 ez_20 => ?_)
  refine lv_l2i S.1 S.2.1 dX5_append_25 rfl ?_
  refine lv_topi (fun x_22 ex_22 => ?_)
  refine lv_sipush (v := 255) S.1 S.2.1 dX5_append_26 (by decide) ?_
  refine lv_iand S.1 S.2.1 dX5_append_29 ?_
  refine lv_topi (fun x_23 ex_23 => ?_)
  refine va_iast S.1 S.2.1 hK.1 hP hD hS 1 0 rfl rfl (by unfold vp_in; decide) dX5_append_30 (fun H locs hP hD hS => ?_)
  have hP : va_P D vwCl [(tp, .inr (5, [.ref by_, .int 2, .int 0, .int 0, .int 0, .int 0])), (by_, .inl (cI, 400, .inl (upd f_16 (2 : Int32).toNatClampNeg (x_23))))] H := hP
  have hD : va_D A [(tp, .inr (5, [.ref by_, .int 2, .int 0, .int 0, .int 0, .int 0])), (by_, .inl (cI, 400, .inl (upd f_16 (2 : Int32).toNatClampNeg (x_23))))] := hD
  generalize (upd f_16 (2 : Int32).toNatClampNeg (x_23)) = f_24 at hP hD
  refine lv_aload_n S.1 S.2.1 dX5_append_31 rfl (lv_at hl 1 rfl) ?_
  refine lv_dup S.1 S.2.1 dX5_append_32 rfl ?_
  refine b_get (v := .int 2) S iX5 hK hP 0 rfl rfl 1 (by decide) (by decide +kernel) rfl dX5_append_33 ?_
  refine lv_iconst (v := 1) S.1 S.2.1 dX5_append_36 (by decide) ?_
  refine lv_iadd S.1 S.2.1 dX5_append_37 ?_
  refine lv_topi (fun x_25 ex_25 => ?_)
  have ex_25 : x_25 = 3 := by rw [ex_25]; decide
  subst ex_25
  refine b_put (v := .int 3) S iX5 tyX5 tyX5_ok nmX5 hK hP hD hS 0 rfl rfl 1 (by decide) (by decide +kernel) rfl rfl rfl (Nat.le_of_ble_eq_true rfl) dX5_append_38 (fun H locs hP hD hS => ?_)
  have hP : va_P D vwCl [(tp, .inr (5, [.ref by_, .int 3, .int 0, .int 0, .int 0, .int 0])), (by_, .inl (cI, 400, .inl f_24))] H := hP
  have hD : va_D A [(tp, .inr (5, [.ref by_, .int 3, .int 0, .int 0, .int 0, .int 0])), (by_, .inl (cI, 400, .inl f_24))] := hD
  refine lv_iinc (v := 2) (lv' := [(4, .int 2), (0, .ref tp), (1, .long wv), (3, .int 6)]) S.1 S.2.1 dX5_append_41 hl (k := 0) rfl (by decide) (by decide) rfl (fun ls hl => ?_)
  refine lv_goto (tgt := 5) S.1 S.2.1 dX5_append_44 (by decide) ?_
  refine lv_iload S.1 S.2.1 dX5_append_5 (lv_at hl 0 rfl) ?_
  refine lv_if_lt (tgt := 47) S.1 S.2.1 dX5_append_7 (by decide) (fun c_26 => absurd c_26 (by decide)) (fun c_26 => ?_)
  refine lv_aload_n S.1 S.2.1 dX5_append_10 rfl (lv_at hl 1 rfl) ?_
  refine b_get (v := .ref by_) S iX5 hK hP 0 rfl rfl 0 (by decide) (by decide +kernel) rfl dX5_append_11 ?_
  refine lv_aload_n S.1 S.2.1 dX5_append_14 rfl (lv_at hl 1 rfl) ?_
  refine b_get (v := .int 3) S iX5 hK hP 0 rfl rfl 1 (by decide) (by decide +kernel) rfl dX5_append_15 ?_
  refine lv_lload_n S.1 S.2.1 dX5_append_18 rfl (lv_at hl 2 rfl) ?_
  refine lv_bipush (v := 8) S.1 S.2.1 dX5_append_19 (by decide) ?_
  refine lv_iload S.1 S.2.1 dX5_append_21 (lv_at hl 0 rfl) ?_
  refine lv_imul S.1 S.2.1 dX5_append_23 ?_
  refine lv_topi (fun x_27 ex_27 => ?_)
  have ex_27 : x_27 = 16 := by rw [ex_27]; decide
  subst ex_27
  refine lv_lushr S.1 S.2.1 dX5_append_24 rfl ?_
  refine lv_topl (fun z_28 ez_28 => ?_)
  refine lv_l2i S.1 S.2.1 dX5_append_25 rfl ?_
  refine lv_topi (fun x_30 ex_30 => ?_)
  refine lv_sipush (v := 255) S.1 S.2.1 dX5_append_26 (by decide) ?_
  refine lv_iand S.1 S.2.1 dX5_append_29 ?_
  refine lv_topi (fun x_31 ex_31 => ?_)
  refine va_iast S.1 S.2.1 hK.1 hP hD hS 1 0 rfl rfl (by unfold vp_in; decide) dX5_append_30 (fun H locs hP hD hS => ?_)
  have hP : va_P D vwCl [(tp, .inr (5, [.ref by_, .int 3, .int 0, .int 0, .int 0, .int 0])), (by_, .inl (cI, 400, .inl (upd f_24 (3 : Int32).toNatClampNeg (x_31))))] H := hP
  have hD : va_D A [(tp, .inr (5, [.ref by_, .int 3, .int 0, .int 0, .int 0, .int 0])), (by_, .inl (cI, 400, .inl (upd f_24 (3 : Int32).toNatClampNeg (x_31))))] := hD
  generalize (upd f_24 (3 : Int32).toNatClampNeg (x_31)) = f_32 at hP hD
  refine lv_aload_n S.1 S.2.1 dX5_append_31 rfl (lv_at hl 1 rfl) ?_
  refine lv_dup S.1 S.2.1 dX5_append_32 rfl ?_
  refine b_get (v := .int 3) S iX5 hK hP 0 rfl rfl 1 (by decide) (by decide +kernel) rfl dX5_append_33 ?_
  refine lv_iconst (v := 1) S.1 S.2.1 dX5_append_36 (by decide) ?_
  refine lv_iadd S.1 S.2.1 dX5_append_37 ?_
  refine lv_topi (fun x_33 ex_33 => ?_)
  have ex_33 : x_33 = 4 := by rw [ex_33]; decide
  subst ex_33
  refine b_put (v := .int 4) S iX5 tyX5 tyX5_ok nmX5 hK hP hD hS 0 rfl rfl 1 (by decide) (by decide +kernel) rfl rfl rfl (Nat.le_of_ble_eq_true rfl) dX5_append_38 (fun H locs hP hD hS => ?_)
  have hP : va_P D vwCl [(tp, .inr (5, [.ref by_, .int 4, .int 0, .int 0, .int 0, .int 0])), (by_, .inl (cI, 400, .inl f_32))] H := hP
  have hD : va_D A [(tp, .inr (5, [.ref by_, .int 4, .int 0, .int 0, .int 0, .int 0])), (by_, .inl (cI, 400, .inl f_32))] := hD
  refine lv_iinc (v := 1) (lv' := [(4, .int 1), (0, .ref tp), (1, .long wv), (3, .int 6)]) S.1 S.2.1 dX5_append_41 hl (k := 0) rfl (by decide) (by decide) rfl (fun ls hl => ?_)
  refine lv_goto (tgt := 5) S.1 S.2.1 dX5_append_44 (by decide) ?_
  refine lv_iload S.1 S.2.1 dX5_append_5 (lv_at hl 0 rfl) ?_
  refine lv_if_lt (tgt := 47) S.1 S.2.1 dX5_append_7 (by decide) (fun c_34 => absurd c_34 (by decide)) (fun c_34 => ?_)
  refine lv_aload_n S.1 S.2.1 dX5_append_10 rfl (lv_at hl 1 rfl) ?_
  refine b_get (v := .ref by_) S iX5 hK hP 0 rfl rfl 0 (by decide) (by decide +kernel) rfl dX5_append_11 ?_
  refine lv_aload_n S.1 S.2.1 dX5_append_14 rfl (lv_at hl 1 rfl) ?_
  refine b_get (v := .int 4) S iX5 hK hP 0 rfl rfl 1 (by decide) (by decide +kernel) rfl dX5_append_15 ?_
  refine lv_lload_n S.1 S.2.1 dX5_append_18 rfl (lv_at hl 2 rfl) ?_
  refine lv_bipush (v := 8) S.1 S.2.1 dX5_append_19 (by decide) ?_
  refine lv_iload S.1 S.2.1 dX5_append_21 (lv_at hl 0 rfl) ?_
  refine lv_imul S.1 S.2.1 dX5_append_23 ?_
  refine lv_topi (fun x_35 ex_35 => ?_)
  have ex_35 : x_35 = 8 := by rw [ex_35]; decide
  subst ex_35
  refine lv_lushr S.1 S.2.1 dX5_append_24 rfl ?_
  refine lv_topl (fun z_36 ez_36 => ?_)
  refine lv_l2i S.1 S.2.1 dX5_append_25 rfl ?_
  refine lv_topi (fun x_38 ex_38 => ?_)
  refine lv_sipush (v := 255) S.1 S.2.1 dX5_append_26 (by decide) ?_
  refine lv_iand S.1 S.2.1 dX5_append_29 ?_
  refine lv_topi (fun x_39 ex_39 => ?_)
  refine va_iast S.1 S.2.1 hK.1 hP hD hS 1 0 rfl rfl (by unfold vp_in; decide) dX5_append_30 (fun H locs hP hD hS => ?_)
  have hP : va_P D vwCl [(tp, .inr (5, [.ref by_, .int 4, .int 0, .int 0, .int 0, .int 0])), (by_, .inl (cI, 400, .inl (upd f_32 (4 : Int32).toNatClampNeg (x_39))))] H := hP
  have hD : va_D A [(tp, .inr (5, [.ref by_, .int 4, .int 0, .int 0, .int 0, .int 0])), (by_, .inl (cI, 400, .inl (upd f_32 (4 : Int32).toNatClampNeg (x_39))))] := hD
  generalize (upd f_32 (4 : Int32).toNatClampNeg (x_39)) = f_40 at hP hD
  refine lv_aload_n S.1 S.2.1 dX5_append_31 rfl (lv_at hl 1 rfl) ?_
  refine lv_dup S.1 S.2.1 dX5_append_32 rfl ?_
  refine b_get (v := .int 4) S iX5 hK hP 0 rfl rfl 1 (by decide) (by decide +kernel) rfl dX5_append_33 ?_
  refine lv_iconst (v := 1) S.1 S.2.1 dX5_append_36 (by decide) ?_
  refine lv_iadd S.1 S.2.1 dX5_append_37 ?_
  refine lv_topi (fun x_41 ex_41 => ?_)
  have ex_41 : x_41 = 5 := by rw [ex_41]; decide
  subst ex_41
  refine b_put (v := .int 5) S iX5 tyX5 tyX5_ok nmX5 hK hP hD hS 0 rfl rfl 1 (by decide) (by decide +kernel) rfl rfl rfl (Nat.le_of_ble_eq_true rfl) dX5_append_38 (fun H locs hP hD hS => ?_)
  have hP : va_P D vwCl [(tp, .inr (5, [.ref by_, .int 5, .int 0, .int 0, .int 0, .int 0])), (by_, .inl (cI, 400, .inl f_40))] H := hP
  have hD : va_D A [(tp, .inr (5, [.ref by_, .int 5, .int 0, .int 0, .int 0, .int 0])), (by_, .inl (cI, 400, .inl f_40))] := hD
  refine lv_iinc (v := 0) (lv' := [(4, .int 0), (0, .ref tp), (1, .long wv), (3, .int 6)]) S.1 S.2.1 dX5_append_41 hl (k := 0) rfl (by decide) (by decide) rfl (fun ls hl => ?_)
  refine lv_goto (tgt := 5) S.1 S.2.1 dX5_append_44 (by decide) ?_
  refine lv_iload S.1 S.2.1 dX5_append_5 (lv_at hl 0 rfl) ?_
  refine lv_if_lt (tgt := 47) S.1 S.2.1 dX5_append_7 (by decide) (fun c_42 => absurd c_42 (by decide)) (fun c_42 => ?_)
  refine lv_aload_n S.1 S.2.1 dX5_append_10 rfl (lv_at hl 1 rfl) ?_
  refine b_get (v := .ref by_) S iX5 hK hP 0 rfl rfl 0 (by decide) (by decide +kernel) rfl dX5_append_11 ?_
  refine lv_aload_n S.1 S.2.1 dX5_append_14 rfl (lv_at hl 1 rfl) ?_
  refine b_get (v := .int 5) S iX5 hK hP 0 rfl rfl 1 (by decide) (by decide +kernel) rfl dX5_append_15 ?_
  refine lv_lload_n S.1 S.2.1 dX5_append_18 rfl (lv_at hl 2 rfl) ?_
  refine lv_bipush (v := 8) S.1 S.2.1 dX5_append_19 (by decide) ?_
  refine lv_iload S.1 S.2.1 dX5_append_21 (lv_at hl 0 rfl) ?_
  refine lv_imul S.1 S.2.1 dX5_append_23 ?_
  refine lv_topi (fun x_43 ex_43 => ?_)
  have ex_43 : x_43 = 0 := by rw [ex_43]; decide
  subst ex_43
  refine lv_lushr S.1 S.2.1 dX5_append_24 rfl ?_
  refine lv_topl (fun z_44 ez_44 => ?_)
  refine lv_l2i S.1 S.2.1 dX5_append_25 rfl ?_
  refine lv_topi (fun x_46 ex_46 => ?_)
  refine lv_sipush (v := 255) S.1 S.2.1 dX5_append_26 (by decide) ?_
  refine lv_iand S.1 S.2.1 dX5_append_29 ?_
  refine lv_topi (fun x_47 ex_47 => ?_)
  refine va_iast S.1 S.2.1 hK.1 hP hD hS 1 0 rfl rfl (by unfold vp_in; decide) dX5_append_30 (fun H locs hP hD hS => ?_)
  have hP : va_P D vwCl [(tp, .inr (5, [.ref by_, .int 5, .int 0, .int 0, .int 0, .int 0])), (by_, .inl (cI, 400, .inl (upd f_40 (5 : Int32).toNatClampNeg (x_47))))] H := hP
  have hD : va_D A [(tp, .inr (5, [.ref by_, .int 5, .int 0, .int 0, .int 0, .int 0])), (by_, .inl (cI, 400, .inl (upd f_40 (5 : Int32).toNatClampNeg (x_47))))] := hD
  generalize (upd f_40 (5 : Int32).toNatClampNeg (x_47)) = f_48 at hP hD
  refine lv_aload_n S.1 S.2.1 dX5_append_31 rfl (lv_at hl 1 rfl) ?_
  refine lv_dup S.1 S.2.1 dX5_append_32 rfl ?_
  refine b_get (v := .int 5) S iX5 hK hP 0 rfl rfl 1 (by decide) (by decide +kernel) rfl dX5_append_33 ?_
  refine lv_iconst (v := 1) S.1 S.2.1 dX5_append_36 (by decide) ?_
  refine lv_iadd S.1 S.2.1 dX5_append_37 ?_
  refine lv_topi (fun x_49 ex_49 => ?_)
  have ex_49 : x_49 = 6 := by rw [ex_49]; decide
  subst ex_49
  refine b_put (v := .int 6) S iX5 tyX5 tyX5_ok nmX5 hK hP hD hS 0 rfl rfl 1 (by decide) (by decide +kernel) rfl rfl rfl (Nat.le_of_ble_eq_true rfl) dX5_append_38 (fun H locs hP hD hS => ?_)
  have hP : va_P D vwCl [(tp, .inr (5, [.ref by_, .int 6, .int 0, .int 0, .int 0, .int 0])), (by_, .inl (cI, 400, .inl f_48))] H := hP
  have hD : va_D A [(tp, .inr (5, [.ref by_, .int 6, .int 0, .int 0, .int 0, .int 0])), (by_, .inl (cI, 400, .inl f_48))] := hD
  refine lv_iinc (v := (-1)) (lv' := [(4, .int (-1)), (0, .ref tp), (1, .long wv), (3, .int 6)]) S.1 S.2.1 dX5_append_41 hl (k := 0) rfl (by decide) (by decide) rfl (fun ls hl => ?_)
  refine lv_goto (tgt := 5) S.1 S.2.1 dX5_append_44 (by decide) ?_
  refine lv_iload S.1 S.2.1 dX5_append_5 (lv_at hl 0 rfl) ?_
  refine lv_if_lt (tgt := 47) S.1 S.2.1 dX5_append_7 (by decide) (fun c_50 => ?_) (fun c_50 => absurd c_50 (by decide))
  have hP := hP.sub (ws' := [(tp, .inr (5, [.ref by_, .int 6, .int 0, .int 0, .int 0, .int 0]))]) [0] rfl
  have hD := hD.sub (ws' := [(tp, .inr (5, [.ref by_, .int 6, .int 0, .int 0, .int 0, .int 0]))]) [0] (by decide) rfl
  exact b_vret S.1 S.2.1 X.2.1 X.2.2.1 hP hD hS rfl dX5_append_47
set_option maxHeartbeats 4000000 in
set_option maxRecDepth 100000 in
theorem c_X5_append_7 (l : Launch) (D : va_G) (cI cZ cC cS : ClassId) (sq sz : Nat) (tp : Nat) (by_ : Nat) (f : Nat → Int32) (wv : Int64) : mV l yX5_append wsX5_append 0 0 0 0 D (tyW cI cZ cC cS) sq [(tp, .inr (5, [.ref by_, .int 0, .int 0, .int 0, .int 0, .int 0])), (by_, .inl (cI, 400, .inl f))] sz [.ref tp, .long wv, .int 7] (fun w => w = [(tp, .inr (5, [.ref by_, .int 7, .int 0, .int 0, .int 0, .int 0]))]) := by
  refine b_metV (cc := cX5_append) (maxL := 5) (ret := none) (by decide) rfl (Nat.le_of_ble_eq_true rfl) ?_
  intro p e s m below meth c ls A H X hsz hP hK hD hA hS hl
  have S : CallFix p m c cX5_append 5 s ([.ref tp, .long wv, .int 7] : List Value).toArray wsX5_append RX5 := X.1
  have hl : lv_has ls 5 [(0, .ref tp), (1, .long wv), (3, .int 7)] := hl
  have iX5 := jX5_append_X5
  refine lv_iload_n S.1 S.2.1 dX5_append_0 rfl (lv_at hl 2 rfl) ?_
  refine lv_iconst (v := 1) S.1 S.2.1 dX5_append_1 (by decide) ?_
  refine lv_isub S.1 S.2.1 dX5_append_2 ?_
  refine lv_topi (fun x_1 ex_1 => ?_)
  have ex_1 : x_1 = 6 := by rw [ex_1]; decide
  subst ex_1
  refine lv_istore (lv' := [(4, .int 6), (0, .ref tp), (1, .long wv), (3, .int 7)]) S.1 S.2.1 dX5_append_3 hl (by decide) rfl (fun ls hl => ?_)
  refine lv_iload S.1 S.2.1 dX5_append_5 (lv_at hl 0 rfl) ?_
  refine lv_if_lt (tgt := 47) S.1 S.2.1 dX5_append_7 (by decide) (fun c_2 => absurd c_2 (by decide)) (fun c_2 => ?_)
  refine lv_aload_n S.1 S.2.1 dX5_append_10 rfl (lv_at hl 1 rfl) ?_
  refine b_get (v := .ref by_) S iX5 hK hP 0 rfl rfl 0 (by decide) (by decide +kernel) rfl dX5_append_11 ?_
  refine lv_aload_n S.1 S.2.1 dX5_append_14 rfl (lv_at hl 1 rfl) ?_
  refine b_get (v := .int 0) S iX5 hK hP 0 rfl rfl 1 (by decide) (by decide +kernel) rfl dX5_append_15 ?_
  refine lv_lload_n S.1 S.2.1 dX5_append_18 rfl (lv_at hl 2 rfl) ?_
  refine lv_bipush (v := 8) S.1 S.2.1 dX5_append_19 (by decide) ?_
  refine lv_iload S.1 S.2.1 dX5_append_21 (lv_at hl 0 rfl) ?_
  refine lv_imul S.1 S.2.1 dX5_append_23 ?_
  refine lv_topi (fun x_3 ex_3 => ?_)
  have ex_3 : x_3 = 48 := by rw [ex_3]; decide
  subst ex_3
  refine lv_lushr S.1 S.2.1 dX5_append_24 rfl ?_
  refine lv_topl (fun z_4 ez_4 => ?_)
  refine lv_l2i S.1 S.2.1 dX5_append_25 rfl ?_
  refine lv_topi (fun x_6 ex_6 => ?_)
  refine lv_sipush (v := 255) S.1 S.2.1 dX5_append_26 (by decide) ?_
  refine lv_iand S.1 S.2.1 dX5_append_29 ?_
  refine lv_topi (fun x_7 ex_7 => ?_)
  refine va_iast S.1 S.2.1 hK.1 hP hD hS 1 0 rfl rfl (by unfold vp_in; decide) dX5_append_30 (fun H locs hP hD hS => ?_)
  have hP : va_P D vwCl [(tp, .inr (5, [.ref by_, .int 0, .int 0, .int 0, .int 0, .int 0])), (by_, .inl (cI, 400, .inl (upd f (0 : Int32).toNatClampNeg (x_7))))] H := hP
  have hD : va_D A [(tp, .inr (5, [.ref by_, .int 0, .int 0, .int 0, .int 0, .int 0])), (by_, .inl (cI, 400, .inl (upd f (0 : Int32).toNatClampNeg (x_7))))] := hD
  generalize (upd f (0 : Int32).toNatClampNeg (x_7)) = f_8 at hP hD
  refine lv_aload_n S.1 S.2.1 dX5_append_31 rfl (lv_at hl 1 rfl) ?_
  refine lv_dup S.1 S.2.1 dX5_append_32 rfl ?_
  refine b_get (v := .int 0) S iX5 hK hP 0 rfl rfl 1 (by decide) (by decide +kernel) rfl dX5_append_33 ?_
  refine lv_iconst (v := 1) S.1 S.2.1 dX5_append_36 (by decide) ?_
  refine lv_iadd S.1 S.2.1 dX5_append_37 ?_
  refine lv_topi (fun x_9 ex_9 => ?_)
  have ex_9 : x_9 = 1 := by rw [ex_9]; decide
  subst ex_9
  refine b_put (v := .int 1) S iX5 tyX5 tyX5_ok nmX5 hK hP hD hS 0 rfl rfl 1 (by decide) (by decide +kernel) rfl rfl rfl (Nat.le_of_ble_eq_true rfl) dX5_append_38 (fun H locs hP hD hS => ?_)
  have hP : va_P D vwCl [(tp, .inr (5, [.ref by_, .int 1, .int 0, .int 0, .int 0, .int 0])), (by_, .inl (cI, 400, .inl f_8))] H := hP
  have hD : va_D A [(tp, .inr (5, [.ref by_, .int 1, .int 0, .int 0, .int 0, .int 0])), (by_, .inl (cI, 400, .inl f_8))] := hD
  refine lv_iinc (v := 5) (lv' := [(4, .int 5), (0, .ref tp), (1, .long wv), (3, .int 7)]) S.1 S.2.1 dX5_append_41 hl (k := 0) rfl (by decide) (by decide) rfl (fun ls hl => ?_)
  refine lv_goto (tgt := 5) S.1 S.2.1 dX5_append_44 (by decide) ?_
  refine lv_iload S.1 S.2.1 dX5_append_5 (lv_at hl 0 rfl) ?_
  refine lv_if_lt (tgt := 47) S.1 S.2.1 dX5_append_7 (by decide) (fun c_10 => absurd c_10 (by decide)) (fun c_10 => ?_)
  refine lv_aload_n S.1 S.2.1 dX5_append_10 rfl (lv_at hl 1 rfl) ?_
  refine b_get (v := .ref by_) S iX5 hK hP 0 rfl rfl 0 (by decide) (by decide +kernel) rfl dX5_append_11 ?_
  refine lv_aload_n S.1 S.2.1 dX5_append_14 rfl (lv_at hl 1 rfl) ?_
  refine b_get (v := .int 1) S iX5 hK hP 0 rfl rfl 1 (by decide) (by decide +kernel) rfl dX5_append_15 ?_
  refine lv_lload_n S.1 S.2.1 dX5_append_18 rfl (lv_at hl 2 rfl) ?_
  refine lv_bipush (v := 8) S.1 S.2.1 dX5_append_19 (by decide) ?_
  refine lv_iload S.1 S.2.1 dX5_append_21 (lv_at hl 0 rfl) ?_
  refine lv_imul S.1 S.2.1 dX5_append_23 ?_
  refine lv_topi (fun x_11 ex_11 => ?_)
  have ex_11 : x_11 = 40 := by rw [ex_11]; decide
  subst ex_11
  refine lv_lushr S.1 S.2.1 dX5_append_24 rfl ?_
  refine lv_topl (fun z_12 ez_12 => ?_)
  refine lv_l2i S.1 S.2.1 dX5_append_25 rfl ?_
  refine lv_topi (fun x_14 ex_14 => ?_)
  refine lv_sipush (v := 255) S.1 S.2.1 dX5_append_26 (by decide) ?_
  refine lv_iand S.1 S.2.1 dX5_append_29 ?_
  refine lv_topi (fun x_15 ex_15 => ?_)
  refine va_iast S.1 S.2.1 hK.1 hP hD hS 1 0 rfl rfl (by unfold vp_in; decide) dX5_append_30 (fun H locs hP hD hS => ?_)
  have hP : va_P D vwCl [(tp, .inr (5, [.ref by_, .int 1, .int 0, .int 0, .int 0, .int 0])), (by_, .inl (cI, 400, .inl (upd f_8 (1 : Int32).toNatClampNeg (x_15))))] H := hP
  have hD : va_D A [(tp, .inr (5, [.ref by_, .int 1, .int 0, .int 0, .int 0, .int 0])), (by_, .inl (cI, 400, .inl (upd f_8 (1 : Int32).toNatClampNeg (x_15))))] := hD
  generalize (upd f_8 (1 : Int32).toNatClampNeg (x_15)) = f_16 at hP hD
  refine lv_aload_n S.1 S.2.1 dX5_append_31 rfl (lv_at hl 1 rfl) ?_
  refine lv_dup S.1 S.2.1 dX5_append_32 rfl ?_
  refine b_get (v := .int 1) S iX5 hK hP 0 rfl rfl 1 (by decide) (by decide +kernel) rfl dX5_append_33 ?_
  refine lv_iconst (v := 1) S.1 S.2.1 dX5_append_36 (by decide) ?_
  refine lv_iadd S.1 S.2.1 dX5_append_37 ?_
  refine lv_topi (fun x_17 ex_17 => ?_)
  have ex_17 : x_17 = 2 := by rw [ex_17]; decide
  subst ex_17
  refine b_put (v := .int 2) S iX5 tyX5 tyX5_ok nmX5 hK hP hD hS 0 rfl rfl 1 (by decide) (by decide +kernel) rfl rfl rfl (Nat.le_of_ble_eq_true rfl) dX5_append_38 (fun H locs hP hD hS => ?_)
  have hP : va_P D vwCl [(tp, .inr (5, [.ref by_, .int 2, .int 0, .int 0, .int 0, .int 0])), (by_, .inl (cI, 400, .inl f_16))] H := hP
  have hD : va_D A [(tp, .inr (5, [.ref by_, .int 2, .int 0, .int 0, .int 0, .int 0])), (by_, .inl (cI, 400, .inl f_16))] := hD
  refine lv_iinc (v := 4) (lv' := [(4, .int 4), (0, .ref tp), (1, .long wv), (3, .int 7)]) S.1 S.2.1 dX5_append_41 hl (k := 0) rfl (by decide) (by decide) rfl (fun ls hl => ?_)
  refine lv_goto (tgt := 5) S.1 S.2.1 dX5_append_44 (by decide) ?_
  refine lv_iload S.1 S.2.1 dX5_append_5 (lv_at hl 0 rfl) ?_
  refine lv_if_lt (tgt := 47) S.1 S.2.1 dX5_append_7 (by decide) (fun c_18 => absurd c_18 (by decide)) (fun c_18 => ?_)
  refine lv_aload_n S.1 S.2.1 dX5_append_10 rfl (lv_at hl 1 rfl) ?_
  refine b_get (v := .ref by_) S iX5 hK hP 0 rfl rfl 0 (by decide) (by decide +kernel) rfl dX5_append_11 ?_
  refine lv_aload_n S.1 S.2.1 dX5_append_14 rfl (lv_at hl 1 rfl) ?_
  refine b_get (v := .int 2) S iX5 hK hP 0 rfl rfl 1 (by decide) (by decide +kernel) rfl dX5_append_15 ?_
  refine lv_lload_n S.1 S.2.1 dX5_append_18 rfl (lv_at hl 2 rfl) ?_
  refine lv_bipush (v := 8) S.1 S.2.1 dX5_append_19 (by decide) ?_
  refine lv_iload S.1 S.2.1 dX5_append_21 (lv_at hl 0 rfl) ?_
  refine lv_imul S.1 S.2.1 dX5_append_23 ?_
  refine lv_topi (fun x_19 ex_19 => ?_)
  have ex_19 : x_19 = 32 := by rw [ex_19]; decide
  subst ex_19
  refine lv_lushr S.1 S.2.1 dX5_append_24 rfl ?_
  refine lv_topl (fun z_20 ez_20 => ?_)
  refine lv_l2i S.1 S.2.1 dX5_append_25 rfl ?_
  refine lv_topi (fun x_22 ex_22 => ?_)
  refine lv_sipush (v := 255) S.1 S.2.1 dX5_append_26 (by decide) ?_
  refine lv_iand S.1 S.2.1 dX5_append_29 ?_
  refine lv_topi (fun x_23 ex_23 => ?_)
  refine va_iast S.1 S.2.1 hK.1 hP hD hS 1 0 rfl rfl (by unfold vp_in; decide) dX5_append_30 (fun H locs hP hD hS => ?_)
  have hP : va_P D vwCl [(tp, .inr (5, [.ref by_, .int 2, .int 0, .int 0, .int 0, .int 0])), (by_, .inl (cI, 400, .inl (upd f_16 (2 : Int32).toNatClampNeg (x_23))))] H := hP
  have hD : va_D A [(tp, .inr (5, [.ref by_, .int 2, .int 0, .int 0, .int 0, .int 0])), (by_, .inl (cI, 400, .inl (upd f_16 (2 : Int32).toNatClampNeg (x_23))))] := hD
  generalize (upd f_16 (2 : Int32).toNatClampNeg (x_23)) = f_24 at hP hD
  refine lv_aload_n S.1 S.2.1 dX5_append_31 rfl (lv_at hl 1 rfl) ?_
  refine lv_dup S.1 S.2.1 dX5_append_32 rfl ?_
  refine b_get (v := .int 2) S iX5 hK hP 0 rfl rfl 1 (by decide) (by decide +kernel) rfl dX5_append_33 ?_
  refine lv_iconst (v := 1) S.1 S.2.1 dX5_append_36 (by decide) ?_
  refine lv_iadd S.1 S.2.1 dX5_append_37 ?_
  refine lv_topi (fun x_25 ex_25 => ?_)
  have ex_25 : x_25 = 3 := by rw [ex_25]; decide
  subst ex_25
  refine b_put (v := .int 3) S iX5 tyX5 tyX5_ok nmX5 hK hP hD hS 0 rfl rfl 1 (by decide) (by decide +kernel) rfl rfl rfl (Nat.le_of_ble_eq_true rfl) dX5_append_38 (fun H locs hP hD hS => ?_)
  have hP : va_P D vwCl [(tp, .inr (5, [.ref by_, .int 3, .int 0, .int 0, .int 0, .int 0])), (by_, .inl (cI, 400, .inl f_24))] H := hP
  have hD : va_D A [(tp, .inr (5, [.ref by_, .int 3, .int 0, .int 0, .int 0, .int 0])), (by_, .inl (cI, 400, .inl f_24))] := hD
  refine lv_iinc (v := 3) (lv' := [(4, .int 3), (0, .ref tp), (1, .long wv), (3, .int 7)]) S.1 S.2.1 dX5_append_41 hl (k := 0) rfl (by decide) (by decide) rfl (fun ls hl => ?_)
  refine lv_goto (tgt := 5) S.1 S.2.1 dX5_append_44 (by decide) ?_
  refine lv_iload S.1 S.2.1 dX5_append_5 (lv_at hl 0 rfl) ?_
  refine lv_if_lt (tgt := 47) S.1 S.2.1 dX5_append_7 (by decide) (fun c_26 => absurd c_26 (by decide)) (fun c_26 => ?_)
  refine lv_aload_n S.1 S.2.1 dX5_append_10 rfl (lv_at hl 1 rfl) ?_
  refine b_get (v := .ref by_) S iX5 hK hP 0 rfl rfl 0 (by decide) (by decide +kernel) rfl dX5_append_11 ?_
  refine lv_aload_n S.1 S.2.1 dX5_append_14 rfl (lv_at hl 1 rfl) ?_
  refine b_get (v := .int 3) S iX5 hK hP 0 rfl rfl 1 (by decide) (by decide +kernel) rfl dX5_append_15 ?_
  refine lv_lload_n S.1 S.2.1 dX5_append_18 rfl (lv_at hl 2 rfl) ?_
  refine lv_bipush (v := 8) S.1 S.2.1 dX5_append_19 (by decide) ?_
  refine lv_iload S.1 S.2.1 dX5_append_21 (lv_at hl 0 rfl) ?_
  refine lv_imul S.1 S.2.1 dX5_append_23 ?_
  refine lv_topi (fun x_27 ex_27 => ?_)
  have ex_27 : x_27 = 24 := by rw [ex_27]; decide
  subst ex_27
  refine lv_lushr S.1 S.2.1 dX5_append_24 rfl ?_
  refine lv_topl (fun z_28 ez_28 => ?_)
  refine lv_l2i S.1 S.2.1 dX5_append_25 rfl ?_
  refine lv_topi (fun x_30 ex_30 => ?_)
  refine lv_sipush (v := 255) S.1 S.2.1 dX5_append_26 (by decide) ?_
  refine lv_iand S.1 S.2.1 dX5_append_29 ?_
  refine lv_topi (fun x_31 ex_31 => ?_)
  refine va_iast S.1 S.2.1 hK.1 hP hD hS 1 0 rfl rfl (by unfold vp_in; decide) dX5_append_30 (fun H locs hP hD hS => ?_)
  have hP : va_P D vwCl [(tp, .inr (5, [.ref by_, .int 3, .int 0, .int 0, .int 0, .int 0])), (by_, .inl (cI, 400, .inl (upd f_24 (3 : Int32).toNatClampNeg (x_31))))] H := hP
  have hD : va_D A [(tp, .inr (5, [.ref by_, .int 3, .int 0, .int 0, .int 0, .int 0])), (by_, .inl (cI, 400, .inl (upd f_24 (3 : Int32).toNatClampNeg (x_31))))] := hD
  generalize (upd f_24 (3 : Int32).toNatClampNeg (x_31)) = f_32 at hP hD
  refine lv_aload_n S.1 S.2.1 dX5_append_31 rfl (lv_at hl 1 rfl) ?_
  refine lv_dup S.1 S.2.1 dX5_append_32 rfl ?_
  refine b_get (v := .int 3) S iX5 hK hP 0 rfl rfl 1 (by decide) (by decide +kernel) rfl dX5_append_33 ?_
  refine lv_iconst (v := 1) S.1 S.2.1 dX5_append_36 (by decide) ?_
  refine lv_iadd S.1 S.2.1 dX5_append_37 ?_
  refine lv_topi (fun x_33 ex_33 => ?_)
  have ex_33 : x_33 = 4 := by rw [ex_33]; decide
  subst ex_33
  refine b_put (v := .int 4) S iX5 tyX5 tyX5_ok nmX5 hK hP hD hS 0 rfl rfl 1 (by decide) (by decide +kernel) rfl rfl rfl (Nat.le_of_ble_eq_true rfl) dX5_append_38 (fun H locs hP hD hS => ?_)
  have hP : va_P D vwCl [(tp, .inr (5, [.ref by_, .int 4, .int 0, .int 0, .int 0, .int 0])), (by_, .inl (cI, 400, .inl f_32))] H := hP
  have hD : va_D A [(tp, .inr (5, [.ref by_, .int 4, .int 0, .int 0, .int 0, .int 0])), (by_, .inl (cI, 400, .inl f_32))] := hD
  refine lv_iinc (v := 2) (lv' := [(4, .int 2), (0, .ref tp), (1, .long wv), (3, .int 7)]) S.1 S.2.1 dX5_append_41 hl (k := 0) rfl (by decide) (by decide) rfl (fun ls hl => ?_)
  refine lv_goto (tgt := 5) S.1 S.2.1 dX5_append_44 (by decide) ?_
  refine lv_iload S.1 S.2.1 dX5_append_5 (lv_at hl 0 rfl) ?_
  refine lv_if_lt (tgt := 47) S.1 S.2.1 dX5_append_7 (by decide) (fun c_34 => absurd c_34 (by decide)) (fun c_34 => ?_)
  refine lv_aload_n S.1 S.2.1 dX5_append_10 rfl (lv_at hl 1 rfl) ?_
  refine b_get (v := .ref by_) S iX5 hK hP 0 rfl rfl 0 (by decide) (by decide +kernel) rfl dX5_append_11 ?_
  refine lv_aload_n S.1 S.2.1 dX5_append_14 rfl (lv_at hl 1 rfl) ?_
  refine b_get (v := .int 4) S iX5 hK hP 0 rfl rfl 1 (by decide) (by decide +kernel) rfl dX5_append_15 ?_
  refine lv_lload_n S.1 S.2.1 dX5_append_18 rfl (lv_at hl 2 rfl) ?_
  refine lv_bipush (v := 8) S.1 S.2.1 dX5_append_19 (by decide) ?_
  refine lv_iload S.1 S.2.1 dX5_append_21 (lv_at hl 0 rfl) ?_
  refine lv_imul S.1 S.2.1 dX5_append_23 ?_
  refine lv_topi (fun x_35 ex_35 => ?_)
  have ex_35 : x_35 = 16 := by rw [ex_35]; decide
  subst ex_35
  refine lv_lushr S.1 S.2.1 dX5_append_24 rfl ?_
  refine lv_topl (fun z_36 ez_36 => ?_)
  refine lv_l2i S.1 S.2.1 dX5_append_25 rfl ?_
  refine lv_topi (fun x_38 ex_38 => ?_)
  refine lv_sipush (v := 255) S.1 S.2.1 dX5_append_26 (by decide) ?_
  refine lv_iand S.1 S.2.1 dX5_append_29 ?_
  refine lv_topi (fun x_39 ex_39 => ?_)
  refine va_iast S.1 S.2.1 hK.1 hP hD hS 1 0 rfl rfl (by unfold vp_in; decide) dX5_append_30 (fun H locs hP hD hS => ?_)
  have hP : va_P D vwCl [(tp, .inr (5, [.ref by_, .int 4, .int 0, .int 0, .int 0, .int 0])), (by_, .inl (cI, 400, .inl (upd f_32 (4 : Int32).toNatClampNeg (x_39))))] H := hP
  have hD : va_D A [(tp, .inr (5, [.ref by_, .int 4, .int 0, .int 0, .int 0, .int 0])), (by_, .inl (cI, 400, .inl (upd f_32 (4 : Int32).toNatClampNeg (x_39))))] := hD
  generalize (upd f_32 (4 : Int32).toNatClampNeg (x_39)) = f_40 at hP hD
  refine lv_aload_n S.1 S.2.1 dX5_append_31 rfl (lv_at hl 1 rfl) ?_
  refine lv_dup S.1 S.2.1 dX5_append_32 rfl ?_
  refine b_get (v := .int 4) S iX5 hK hP 0 rfl rfl 1 (by decide) (by decide +kernel) rfl dX5_append_33 ?_
  refine lv_iconst (v := 1) S.1 S.2.1 dX5_append_36 (by decide) ?_
  refine lv_iadd S.1 S.2.1 dX5_append_37 ?_
  refine lv_topi (fun x_41 ex_41 => ?_)
  have ex_41 : x_41 = 5 := by rw [ex_41]; decide
  subst ex_41
  refine b_put (v := .int 5) S iX5 tyX5 tyX5_ok nmX5 hK hP hD hS 0 rfl rfl 1 (by decide) (by decide +kernel) rfl rfl rfl (Nat.le_of_ble_eq_true rfl) dX5_append_38 (fun H locs hP hD hS => ?_)
  have hP : va_P D vwCl [(tp, .inr (5, [.ref by_, .int 5, .int 0, .int 0, .int 0, .int 0])), (by_, .inl (cI, 400, .inl f_40))] H := hP
  have hD : va_D A [(tp, .inr (5, [.ref by_, .int 5, .int 0, .int 0, .int 0, .int 0])), (by_, .inl (cI, 400, .inl f_40))] := hD
  refine lv_iinc (v := 1) (lv' := [(4, .int 1), (0, .ref tp), (1, .long wv), (3, .int 7)]) S.1 S.2.1 dX5_append_41 hl (k := 0) rfl (by decide) (by decide) rfl (fun ls hl => ?_)
  refine lv_goto (tgt := 5) S.1 S.2.1 dX5_append_44 (by decide) ?_
  refine lv_iload S.1 S.2.1 dX5_append_5 (lv_at hl 0 rfl) ?_
  refine lv_if_lt (tgt := 47) S.1 S.2.1 dX5_append_7 (by decide) (fun c_42 => absurd c_42 (by decide)) (fun c_42 => ?_)
  refine lv_aload_n S.1 S.2.1 dX5_append_10 rfl (lv_at hl 1 rfl) ?_
  refine b_get (v := .ref by_) S iX5 hK hP 0 rfl rfl 0 (by decide) (by decide +kernel) rfl dX5_append_11 ?_
  refine lv_aload_n S.1 S.2.1 dX5_append_14 rfl (lv_at hl 1 rfl) ?_
  refine b_get (v := .int 5) S iX5 hK hP 0 rfl rfl 1 (by decide) (by decide +kernel) rfl dX5_append_15 ?_
  refine lv_lload_n S.1 S.2.1 dX5_append_18 rfl (lv_at hl 2 rfl) ?_
  refine lv_bipush (v := 8) S.1 S.2.1 dX5_append_19 (by decide) ?_
  refine lv_iload S.1 S.2.1 dX5_append_21 (lv_at hl 0 rfl) ?_
  refine lv_imul S.1 S.2.1 dX5_append_23 ?_
  refine lv_topi (fun x_43 ex_43 => ?_)
  have ex_43 : x_43 = 8 := by rw [ex_43]; decide
  subst ex_43
  refine lv_lushr S.1 S.2.1 dX5_append_24 rfl ?_
  refine lv_topl (fun z_44 ez_44 => ?_)
  refine lv_l2i S.1 S.2.1 dX5_append_25 rfl ?_
  refine lv_topi (fun x_46 ex_46 => ?_)
  refine lv_sipush (v := 255) S.1 S.2.1 dX5_append_26 (by decide) ?_
  refine lv_iand S.1 S.2.1 dX5_append_29 ?_
  refine lv_topi (fun x_47 ex_47 => ?_)
  refine va_iast S.1 S.2.1 hK.1 hP hD hS 1 0 rfl rfl (by unfold vp_in; decide) dX5_append_30 (fun H locs hP hD hS => ?_)
  have hP : va_P D vwCl [(tp, .inr (5, [.ref by_, .int 5, .int 0, .int 0, .int 0, .int 0])), (by_, .inl (cI, 400, .inl (upd f_40 (5 : Int32).toNatClampNeg (x_47))))] H := hP
  have hD : va_D A [(tp, .inr (5, [.ref by_, .int 5, .int 0, .int 0, .int 0, .int 0])), (by_, .inl (cI, 400, .inl (upd f_40 (5 : Int32).toNatClampNeg (x_47))))] := hD
  generalize (upd f_40 (5 : Int32).toNatClampNeg (x_47)) = f_48 at hP hD
  refine lv_aload_n S.1 S.2.1 dX5_append_31 rfl (lv_at hl 1 rfl) ?_
  refine lv_dup S.1 S.2.1 dX5_append_32 rfl ?_
  refine b_get (v := .int 5) S iX5 hK hP 0 rfl rfl 1 (by decide) (by decide +kernel) rfl dX5_append_33 ?_
  refine lv_iconst (v := 1) S.1 S.2.1 dX5_append_36 (by decide) ?_
  refine lv_iadd S.1 S.2.1 dX5_append_37 ?_
  refine lv_topi (fun x_49 ex_49 => ?_)
  have ex_49 : x_49 = 6 := by rw [ex_49]; decide
  subst ex_49
  refine b_put (v := .int 6) S iX5 tyX5 tyX5_ok nmX5 hK hP hD hS 0 rfl rfl 1 (by decide) (by decide +kernel) rfl rfl rfl (Nat.le_of_ble_eq_true rfl) dX5_append_38 (fun H locs hP hD hS => ?_)
  have hP : va_P D vwCl [(tp, .inr (5, [.ref by_, .int 6, .int 0, .int 0, .int 0, .int 0])), (by_, .inl (cI, 400, .inl f_48))] H := hP
  have hD : va_D A [(tp, .inr (5, [.ref by_, .int 6, .int 0, .int 0, .int 0, .int 0])), (by_, .inl (cI, 400, .inl f_48))] := hD
  refine lv_iinc (v := 0) (lv' := [(4, .int 0), (0, .ref tp), (1, .long wv), (3, .int 7)]) S.1 S.2.1 dX5_append_41 hl (k := 0) rfl (by decide) (by decide) rfl (fun ls hl => ?_)
  refine lv_goto (tgt := 5) S.1 S.2.1 dX5_append_44 (by decide) ?_
  refine lv_iload S.1 S.2.1 dX5_append_5 (lv_at hl 0 rfl) ?_
  refine lv_if_lt (tgt := 47) S.1 S.2.1 dX5_append_7 (by decide) (fun c_50 => absurd c_50 (by decide)) (fun c_50 => ?_)
  refine lv_aload_n S.1 S.2.1 dX5_append_10 rfl (lv_at hl 1 rfl) ?_
  refine b_get (v := .ref by_) S iX5 hK hP 0 rfl rfl 0 (by decide) (by decide +kernel) rfl dX5_append_11 ?_
  refine lv_aload_n S.1 S.2.1 dX5_append_14 rfl (lv_at hl 1 rfl) ?_
  refine b_get (v := .int 6) S iX5 hK hP 0 rfl rfl 1 (by decide) (by decide +kernel) rfl dX5_append_15 ?_
  refine lv_lload_n S.1 S.2.1 dX5_append_18 rfl (lv_at hl 2 rfl) ?_
  refine lv_bipush (v := 8) S.1 S.2.1 dX5_append_19 (by decide) ?_
  refine lv_iload S.1 S.2.1 dX5_append_21 (lv_at hl 0 rfl) ?_
  refine lv_imul S.1 S.2.1 dX5_append_23 ?_
  refine lv_topi (fun x_51 ex_51 => ?_)
  have ex_51 : x_51 = 0 := by rw [ex_51]; decide
  subst ex_51
  refine lv_lushr S.1 S.2.1 dX5_append_24 rfl ?_
  refine lv_topl (fun z_52 ez_52 => ?_)
  refine lv_l2i S.1 S.2.1 dX5_append_25 rfl ?_
  refine lv_topi (fun x_54 ex_54 => ?_)
  refine lv_sipush (v := 255) S.1 S.2.1 dX5_append_26 (by decide) ?_
  refine lv_iand S.1 S.2.1 dX5_append_29 ?_
  refine lv_topi (fun x_55 ex_55 => ?_)
  refine va_iast S.1 S.2.1 hK.1 hP hD hS 1 0 rfl rfl (by unfold vp_in; decide) dX5_append_30 (fun H locs hP hD hS => ?_)
  have hP : va_P D vwCl [(tp, .inr (5, [.ref by_, .int 6, .int 0, .int 0, .int 0, .int 0])), (by_, .inl (cI, 400, .inl (upd f_48 (6 : Int32).toNatClampNeg (x_55))))] H := hP
  have hD : va_D A [(tp, .inr (5, [.ref by_, .int 6, .int 0, .int 0, .int 0, .int 0])), (by_, .inl (cI, 400, .inl (upd f_48 (6 : Int32).toNatClampNeg (x_55))))] := hD
  generalize (upd f_48 (6 : Int32).toNatClampNeg (x_55)) = f_56 at hP hD
  refine lv_aload_n S.1 S.2.1 dX5_append_31 rfl (lv_at hl 1 rfl) ?_
  refine lv_dup S.1 S.2.1 dX5_append_32 rfl ?_
  refine b_get (v := .int 6) S iX5 hK hP 0 rfl rfl 1 (by decide) (by decide +kernel) rfl dX5_append_33 ?_
  refine lv_iconst (v := 1) S.1 S.2.1 dX5_append_36 (by decide) ?_
  refine lv_iadd S.1 S.2.1 dX5_append_37 ?_
  refine lv_topi (fun x_57 ex_57 => ?_)
  have ex_57 : x_57 = 7 := by rw [ex_57]; decide
  subst ex_57
  refine b_put (v := .int 7) S iX5 tyX5 tyX5_ok nmX5 hK hP hD hS 0 rfl rfl 1 (by decide) (by decide +kernel) rfl rfl rfl (Nat.le_of_ble_eq_true rfl) dX5_append_38 (fun H locs hP hD hS => ?_)
  have hP : va_P D vwCl [(tp, .inr (5, [.ref by_, .int 7, .int 0, .int 0, .int 0, .int 0])), (by_, .inl (cI, 400, .inl f_56))] H := hP
  have hD : va_D A [(tp, .inr (5, [.ref by_, .int 7, .int 0, .int 0, .int 0, .int 0])), (by_, .inl (cI, 400, .inl f_56))] := hD
  refine lv_iinc (v := (-1)) (lv' := [(4, .int (-1)), (0, .ref tp), (1, .long wv), (3, .int 7)]) S.1 S.2.1 dX5_append_41 hl (k := 0) rfl (by decide) (by decide) rfl (fun ls hl => ?_)
  refine lv_goto (tgt := 5) S.1 S.2.1 dX5_append_44 (by decide) ?_
  refine lv_iload S.1 S.2.1 dX5_append_5 (lv_at hl 0 rfl) ?_
  refine lv_if_lt (tgt := 47) S.1 S.2.1 dX5_append_7 (by decide) (fun c_58 => ?_) (fun c_58 => absurd c_58 (by decide))
  have hP := hP.sub (ws' := [(tp, .inr (5, [.ref by_, .int 7, .int 0, .int 0, .int 0, .int 0]))]) [0] rfl
  have hD := hD.sub (ws' := [(tp, .inr (5, [.ref by_, .int 7, .int 0, .int 0, .int 0, .int 0]))]) [0] (by decide) rfl
  exact b_vret S.1 S.2.1 X.2.1 X.2.2.1 hP hD hS rfl dX5_append_47
set_option maxHeartbeats 4000000 in
set_option maxRecDepth 100000 in
theorem c_X5_append_8 (l : Launch) (D : va_G) (cI cZ cC cS : ClassId) (sq sz : Nat) (tp : Nat) (by_ : Nat) (f : Nat → Int32) (wv : Int64) : mV l yX5_append wsX5_append 0 0 0 0 D (tyW cI cZ cC cS) sq [(tp, .inr (5, [.ref by_, .int 0, .int 0, .int 0, .int 0, .int 0])), (by_, .inl (cI, 400, .inl f))] sz [.ref tp, .long wv, .int 8] (fun w => w = [(tp, .inr (5, [.ref by_, .int 8, .int 0, .int 0, .int 0, .int 0]))]) := by
  refine b_metV (cc := cX5_append) (maxL := 5) (ret := none) (by decide) rfl (Nat.le_of_ble_eq_true rfl) ?_
  intro p e s m below meth c ls A H X hsz hP hK hD hA hS hl
  have S : CallFix p m c cX5_append 5 s ([.ref tp, .long wv, .int 8] : List Value).toArray wsX5_append RX5 := X.1
  have hl : lv_has ls 5 [(0, .ref tp), (1, .long wv), (3, .int 8)] := hl
  have iX5 := jX5_append_X5
  refine lv_iload_n S.1 S.2.1 dX5_append_0 rfl (lv_at hl 2 rfl) ?_
  refine lv_iconst (v := 1) S.1 S.2.1 dX5_append_1 (by decide) ?_
  refine lv_isub S.1 S.2.1 dX5_append_2 ?_
  refine lv_topi (fun x_1 ex_1 => ?_)
  have ex_1 : x_1 = 7 := by rw [ex_1]; decide
  subst ex_1
  refine lv_istore (lv' := [(4, .int 7), (0, .ref tp), (1, .long wv), (3, .int 8)]) S.1 S.2.1 dX5_append_3 hl (by decide) rfl (fun ls hl => ?_)
  refine lv_iload S.1 S.2.1 dX5_append_5 (lv_at hl 0 rfl) ?_
  refine lv_if_lt (tgt := 47) S.1 S.2.1 dX5_append_7 (by decide) (fun c_2 => absurd c_2 (by decide)) (fun c_2 => ?_)
  refine lv_aload_n S.1 S.2.1 dX5_append_10 rfl (lv_at hl 1 rfl) ?_
  refine b_get (v := .ref by_) S iX5 hK hP 0 rfl rfl 0 (by decide) (by decide +kernel) rfl dX5_append_11 ?_
  refine lv_aload_n S.1 S.2.1 dX5_append_14 rfl (lv_at hl 1 rfl) ?_
  refine b_get (v := .int 0) S iX5 hK hP 0 rfl rfl 1 (by decide) (by decide +kernel) rfl dX5_append_15 ?_
  refine lv_lload_n S.1 S.2.1 dX5_append_18 rfl (lv_at hl 2 rfl) ?_
  refine lv_bipush (v := 8) S.1 S.2.1 dX5_append_19 (by decide) ?_
  refine lv_iload S.1 S.2.1 dX5_append_21 (lv_at hl 0 rfl) ?_
  refine lv_imul S.1 S.2.1 dX5_append_23 ?_
  refine lv_topi (fun x_3 ex_3 => ?_)
  have ex_3 : x_3 = 56 := by rw [ex_3]; decide
  subst ex_3
  refine lv_lushr S.1 S.2.1 dX5_append_24 rfl ?_
  refine lv_topl (fun z_4 ez_4 => ?_)
  refine lv_l2i S.1 S.2.1 dX5_append_25 rfl ?_
  refine lv_topi (fun x_6 ex_6 => ?_)
  refine lv_sipush (v := 255) S.1 S.2.1 dX5_append_26 (by decide) ?_
  refine lv_iand S.1 S.2.1 dX5_append_29 ?_
  refine lv_topi (fun x_7 ex_7 => ?_)
  refine va_iast S.1 S.2.1 hK.1 hP hD hS 1 0 rfl rfl (by unfold vp_in; decide) dX5_append_30 (fun H locs hP hD hS => ?_)
  have hP : va_P D vwCl [(tp, .inr (5, [.ref by_, .int 0, .int 0, .int 0, .int 0, .int 0])), (by_, .inl (cI, 400, .inl (upd f (0 : Int32).toNatClampNeg (x_7))))] H := hP
  have hD : va_D A [(tp, .inr (5, [.ref by_, .int 0, .int 0, .int 0, .int 0, .int 0])), (by_, .inl (cI, 400, .inl (upd f (0 : Int32).toNatClampNeg (x_7))))] := hD
  generalize (upd f (0 : Int32).toNatClampNeg (x_7)) = f_8 at hP hD
  refine lv_aload_n S.1 S.2.1 dX5_append_31 rfl (lv_at hl 1 rfl) ?_
  refine lv_dup S.1 S.2.1 dX5_append_32 rfl ?_
  refine b_get (v := .int 0) S iX5 hK hP 0 rfl rfl 1 (by decide) (by decide +kernel) rfl dX5_append_33 ?_
  refine lv_iconst (v := 1) S.1 S.2.1 dX5_append_36 (by decide) ?_
  refine lv_iadd S.1 S.2.1 dX5_append_37 ?_
  refine lv_topi (fun x_9 ex_9 => ?_)
  have ex_9 : x_9 = 1 := by rw [ex_9]; decide
  subst ex_9
  refine b_put (v := .int 1) S iX5 tyX5 tyX5_ok nmX5 hK hP hD hS 0 rfl rfl 1 (by decide) (by decide +kernel) rfl rfl rfl (Nat.le_of_ble_eq_true rfl) dX5_append_38 (fun H locs hP hD hS => ?_)
  have hP : va_P D vwCl [(tp, .inr (5, [.ref by_, .int 1, .int 0, .int 0, .int 0, .int 0])), (by_, .inl (cI, 400, .inl f_8))] H := hP
  have hD : va_D A [(tp, .inr (5, [.ref by_, .int 1, .int 0, .int 0, .int 0, .int 0])), (by_, .inl (cI, 400, .inl f_8))] := hD
  refine lv_iinc (v := 6) (lv' := [(4, .int 6), (0, .ref tp), (1, .long wv), (3, .int 8)]) S.1 S.2.1 dX5_append_41 hl (k := 0) rfl (by decide) (by decide) rfl (fun ls hl => ?_)
  refine lv_goto (tgt := 5) S.1 S.2.1 dX5_append_44 (by decide) ?_
  refine lv_iload S.1 S.2.1 dX5_append_5 (lv_at hl 0 rfl) ?_
  refine lv_if_lt (tgt := 47) S.1 S.2.1 dX5_append_7 (by decide) (fun c_10 => absurd c_10 (by decide)) (fun c_10 => ?_)
  refine lv_aload_n S.1 S.2.1 dX5_append_10 rfl (lv_at hl 1 rfl) ?_
  refine b_get (v := .ref by_) S iX5 hK hP 0 rfl rfl 0 (by decide) (by decide +kernel) rfl dX5_append_11 ?_
  refine lv_aload_n S.1 S.2.1 dX5_append_14 rfl (lv_at hl 1 rfl) ?_
  refine b_get (v := .int 1) S iX5 hK hP 0 rfl rfl 1 (by decide) (by decide +kernel) rfl dX5_append_15 ?_
  refine lv_lload_n S.1 S.2.1 dX5_append_18 rfl (lv_at hl 2 rfl) ?_
  refine lv_bipush (v := 8) S.1 S.2.1 dX5_append_19 (by decide) ?_
  refine lv_iload S.1 S.2.1 dX5_append_21 (lv_at hl 0 rfl) ?_
  refine lv_imul S.1 S.2.1 dX5_append_23 ?_
  refine lv_topi (fun x_11 ex_11 => ?_)
  have ex_11 : x_11 = 48 := by rw [ex_11]; decide
  subst ex_11
  refine lv_lushr S.1 S.2.1 dX5_append_24 rfl ?_
  refine lv_topl (fun z_12 ez_12 => ?_)
  refine lv_l2i S.1 S.2.1 dX5_append_25 rfl ?_
  refine lv_topi (fun x_14 ex_14 => ?_)
  refine lv_sipush (v := 255) S.1 S.2.1 dX5_append_26 (by decide) ?_
  refine lv_iand S.1 S.2.1 dX5_append_29 ?_
  refine lv_topi (fun x_15 ex_15 => ?_)
  refine va_iast S.1 S.2.1 hK.1 hP hD hS 1 0 rfl rfl (by unfold vp_in; decide) dX5_append_30 (fun H locs hP hD hS => ?_)
  have hP : va_P D vwCl [(tp, .inr (5, [.ref by_, .int 1, .int 0, .int 0, .int 0, .int 0])), (by_, .inl (cI, 400, .inl (upd f_8 (1 : Int32).toNatClampNeg (x_15))))] H := hP
  have hD : va_D A [(tp, .inr (5, [.ref by_, .int 1, .int 0, .int 0, .int 0, .int 0])), (by_, .inl (cI, 400, .inl (upd f_8 (1 : Int32).toNatClampNeg (x_15))))] := hD
  generalize (upd f_8 (1 : Int32).toNatClampNeg (x_15)) = f_16 at hP hD
  refine lv_aload_n S.1 S.2.1 dX5_append_31 rfl (lv_at hl 1 rfl) ?_
  refine lv_dup S.1 S.2.1 dX5_append_32 rfl ?_
  refine b_get (v := .int 1) S iX5 hK hP 0 rfl rfl 1 (by decide) (by decide +kernel) rfl dX5_append_33 ?_
  refine lv_iconst (v := 1) S.1 S.2.1 dX5_append_36 (by decide) ?_
  refine lv_iadd S.1 S.2.1 dX5_append_37 ?_
  refine lv_topi (fun x_17 ex_17 => ?_)
  have ex_17 : x_17 = 2 := by rw [ex_17]; decide
  subst ex_17
  refine b_put (v := .int 2) S iX5 tyX5 tyX5_ok nmX5 hK hP hD hS 0 rfl rfl 1 (by decide) (by decide +kernel) rfl rfl rfl (Nat.le_of_ble_eq_true rfl) dX5_append_38 (fun H locs hP hD hS => ?_)
  have hP : va_P D vwCl [(tp, .inr (5, [.ref by_, .int 2, .int 0, .int 0, .int 0, .int 0])), (by_, .inl (cI, 400, .inl f_16))] H := hP
  have hD : va_D A [(tp, .inr (5, [.ref by_, .int 2, .int 0, .int 0, .int 0, .int 0])), (by_, .inl (cI, 400, .inl f_16))] := hD
  refine lv_iinc (v := 5) (lv' := [(4, .int 5), (0, .ref tp), (1, .long wv), (3, .int 8)]) S.1 S.2.1 dX5_append_41 hl (k := 0) rfl (by decide) (by decide) rfl (fun ls hl => ?_)
  refine lv_goto (tgt := 5) S.1 S.2.1 dX5_append_44 (by decide) ?_
  refine lv_iload S.1 S.2.1 dX5_append_5 (lv_at hl 0 rfl) ?_
  refine lv_if_lt (tgt := 47) S.1 S.2.1 dX5_append_7 (by decide) (fun c_18 => absurd c_18 (by decide)) (fun c_18 => ?_)
  refine lv_aload_n S.1 S.2.1 dX5_append_10 rfl (lv_at hl 1 rfl) ?_
  refine b_get (v := .ref by_) S iX5 hK hP 0 rfl rfl 0 (by decide) (by decide +kernel) rfl dX5_append_11 ?_
  refine lv_aload_n S.1 S.2.1 dX5_append_14 rfl (lv_at hl 1 rfl) ?_
  refine b_get (v := .int 2) S iX5 hK hP 0 rfl rfl 1 (by decide) (by decide +kernel) rfl dX5_append_15 ?_
  refine lv_lload_n S.1 S.2.1 dX5_append_18 rfl (lv_at hl 2 rfl) ?_
  refine lv_bipush (v := 8) S.1 S.2.1 dX5_append_19 (by decide) ?_
  refine lv_iload S.1 S.2.1 dX5_append_21 (lv_at hl 0 rfl) ?_
  refine lv_imul S.1 S.2.1 dX5_append_23 ?_
  refine lv_topi (fun x_19 ex_19 => ?_)
  have ex_19 : x_19 = 40 := by rw [ex_19]; decide
  subst ex_19
  refine lv_lushr S.1 S.2.1 dX5_append_24 rfl ?_
  refine lv_topl (fun z_20 ez_20 => ?_)
  refine lv_l2i S.1 S.2.1 dX5_append_25 rfl ?_
  refine lv_topi (fun x_22 ex_22 => ?_)
  refine lv_sipush (v := 255) S.1 S.2.1 dX5_append_26 (by decide) ?_
  refine lv_iand S.1 S.2.1 dX5_append_29 ?_
  refine lv_topi (fun x_23 ex_23 => ?_)
  refine va_iast S.1 S.2.1 hK.1 hP hD hS 1 0 rfl rfl (by unfold vp_in; decide) dX5_append_30 (fun H locs hP hD hS => ?_)
  have hP : va_P D vwCl [(tp, .inr (5, [.ref by_, .int 2, .int 0, .int 0, .int 0, .int 0])), (by_, .inl (cI, 400, .inl (upd f_16 (2 : Int32).toNatClampNeg (x_23))))] H := hP
  have hD : va_D A [(tp, .inr (5, [.ref by_, .int 2, .int 0, .int 0, .int 0, .int 0])), (by_, .inl (cI, 400, .inl (upd f_16 (2 : Int32).toNatClampNeg (x_23))))] := hD
  generalize (upd f_16 (2 : Int32).toNatClampNeg (x_23)) = f_24 at hP hD
  refine lv_aload_n S.1 S.2.1 dX5_append_31 rfl (lv_at hl 1 rfl) ?_
  refine lv_dup S.1 S.2.1 dX5_append_32 rfl ?_
  refine b_get (v := .int 2) S iX5 hK hP 0 rfl rfl 1 (by decide) (by decide +kernel) rfl dX5_append_33 ?_
  refine lv_iconst (v := 1) S.1 S.2.1 dX5_append_36 (by decide) ?_
  refine lv_iadd S.1 S.2.1 dX5_append_37 ?_
  refine lv_topi (fun x_25 ex_25 => ?_)
  have ex_25 : x_25 = 3 := by rw [ex_25]; decide
  subst ex_25
  refine b_put (v := .int 3) S iX5 tyX5 tyX5_ok nmX5 hK hP hD hS 0 rfl rfl 1 (by decide) (by decide +kernel) rfl rfl rfl (Nat.le_of_ble_eq_true rfl) dX5_append_38 (fun H locs hP hD hS => ?_)
  have hP : va_P D vwCl [(tp, .inr (5, [.ref by_, .int 3, .int 0, .int 0, .int 0, .int 0])), (by_, .inl (cI, 400, .inl f_24))] H := hP
  have hD : va_D A [(tp, .inr (5, [.ref by_, .int 3, .int 0, .int 0, .int 0, .int 0])), (by_, .inl (cI, 400, .inl f_24))] := hD
  refine lv_iinc (v := 4) (lv' := [(4, .int 4), (0, .ref tp), (1, .long wv), (3, .int 8)]) S.1 S.2.1 dX5_append_41 hl (k := 0) rfl (by decide) (by decide) rfl (fun ls hl => ?_)
  refine lv_goto (tgt := 5) S.1 S.2.1 dX5_append_44 (by decide) ?_
  refine lv_iload S.1 S.2.1 dX5_append_5 (lv_at hl 0 rfl) ?_
  refine lv_if_lt (tgt := 47) S.1 S.2.1 dX5_append_7 (by decide) (fun c_26 => absurd c_26 (by decide)) (fun c_26 => ?_)
  refine lv_aload_n S.1 S.2.1 dX5_append_10 rfl (lv_at hl 1 rfl) ?_
  refine b_get (v := .ref by_) S iX5 hK hP 0 rfl rfl 0 (by decide) (by decide +kernel) rfl dX5_append_11 ?_
  refine lv_aload_n S.1 S.2.1 dX5_append_14 rfl (lv_at hl 1 rfl) ?_
  refine b_get (v := .int 3) S iX5 hK hP 0 rfl rfl 1 (by decide) (by decide +kernel) rfl dX5_append_15 ?_
  refine lv_lload_n S.1 S.2.1 dX5_append_18 rfl (lv_at hl 2 rfl) ?_
  refine lv_bipush (v := 8) S.1 S.2.1 dX5_append_19 (by decide) ?_
  refine lv_iload S.1 S.2.1 dX5_append_21 (lv_at hl 0 rfl) ?_
  refine lv_imul S.1 S.2.1 dX5_append_23 ?_
  refine lv_topi (fun x_27 ex_27 => ?_)
  have ex_27 : x_27 = 32 := by rw [ex_27]; decide
  subst ex_27
  refine lv_lushr S.1 S.2.1 dX5_append_24 rfl ?_
  refine lv_topl (fun z_28 ez_28 => ?_)
  refine lv_l2i S.1 S.2.1 dX5_append_25 rfl ?_
  refine lv_topi (fun x_30 ex_30 => ?_)
  refine lv_sipush (v := 255) S.1 S.2.1 dX5_append_26 (by decide) ?_
  refine lv_iand S.1 S.2.1 dX5_append_29 ?_
  refine lv_topi (fun x_31 ex_31 => ?_)
  refine va_iast S.1 S.2.1 hK.1 hP hD hS 1 0 rfl rfl (by unfold vp_in; decide) dX5_append_30 (fun H locs hP hD hS => ?_)
  have hP : va_P D vwCl [(tp, .inr (5, [.ref by_, .int 3, .int 0, .int 0, .int 0, .int 0])), (by_, .inl (cI, 400, .inl (upd f_24 (3 : Int32).toNatClampNeg (x_31))))] H := hP
  have hD : va_D A [(tp, .inr (5, [.ref by_, .int 3, .int 0, .int 0, .int 0, .int 0])), (by_, .inl (cI, 400, .inl (upd f_24 (3 : Int32).toNatClampNeg (x_31))))] := hD
  generalize (upd f_24 (3 : Int32).toNatClampNeg (x_31)) = f_32 at hP hD
  refine lv_aload_n S.1 S.2.1 dX5_append_31 rfl (lv_at hl 1 rfl) ?_
  refine lv_dup S.1 S.2.1 dX5_append_32 rfl ?_
  refine b_get (v := .int 3) S iX5 hK hP 0 rfl rfl 1 (by decide) (by decide +kernel) rfl dX5_append_33 ?_
  refine lv_iconst (v := 1) S.1 S.2.1 dX5_append_36 (by decide) ?_
  refine lv_iadd S.1 S.2.1 dX5_append_37 ?_
  refine lv_topi (fun x_33 ex_33 => ?_)
  have ex_33 : x_33 = 4 := by rw [ex_33]; decide
  subst ex_33
  refine b_put (v := .int 4) S iX5 tyX5 tyX5_ok nmX5 hK hP hD hS 0 rfl rfl 1 (by decide) (by decide +kernel) rfl rfl rfl (Nat.le_of_ble_eq_true rfl) dX5_append_38 (fun H locs hP hD hS => ?_)
  have hP : va_P D vwCl [(tp, .inr (5, [.ref by_, .int 4, .int 0, .int 0, .int 0, .int 0])), (by_, .inl (cI, 400, .inl f_32))] H := hP
  have hD : va_D A [(tp, .inr (5, [.ref by_, .int 4, .int 0, .int 0, .int 0, .int 0])), (by_, .inl (cI, 400, .inl f_32))] := hD
  refine lv_iinc (v := 3) (lv' := [(4, .int 3), (0, .ref tp), (1, .long wv), (3, .int 8)]) S.1 S.2.1 dX5_append_41 hl (k := 0) rfl (by decide) (by decide) rfl (fun ls hl => ?_)
  refine lv_goto (tgt := 5) S.1 S.2.1 dX5_append_44 (by decide) ?_
  refine lv_iload S.1 S.2.1 dX5_append_5 (lv_at hl 0 rfl) ?_
  refine lv_if_lt (tgt := 47) S.1 S.2.1 dX5_append_7 (by decide) (fun c_34 => absurd c_34 (by decide)) (fun c_34 => ?_)
  refine lv_aload_n S.1 S.2.1 dX5_append_10 rfl (lv_at hl 1 rfl) ?_
  refine b_get (v := .ref by_) S iX5 hK hP 0 rfl rfl 0 (by decide) (by decide +kernel) rfl dX5_append_11 ?_
  refine lv_aload_n S.1 S.2.1 dX5_append_14 rfl (lv_at hl 1 rfl) ?_
  refine b_get (v := .int 4) S iX5 hK hP 0 rfl rfl 1 (by decide) (by decide +kernel) rfl dX5_append_15 ?_
  refine lv_lload_n S.1 S.2.1 dX5_append_18 rfl (lv_at hl 2 rfl) ?_
  refine lv_bipush (v := 8) S.1 S.2.1 dX5_append_19 (by decide) ?_
  refine lv_iload S.1 S.2.1 dX5_append_21 (lv_at hl 0 rfl) ?_
  refine lv_imul S.1 S.2.1 dX5_append_23 ?_
  refine lv_topi (fun x_35 ex_35 => ?_)
  have ex_35 : x_35 = 24 := by rw [ex_35]; decide
  subst ex_35
  refine lv_lushr S.1 S.2.1 dX5_append_24 rfl ?_
  refine lv_topl (fun z_36 ez_36 => ?_)
  refine lv_l2i S.1 S.2.1 dX5_append_25 rfl ?_
  refine lv_topi (fun x_38 ex_38 => ?_)
  refine lv_sipush (v := 255) S.1 S.2.1 dX5_append_26 (by decide) ?_
  refine lv_iand S.1 S.2.1 dX5_append_29 ?_
  refine lv_topi (fun x_39 ex_39 => ?_)
  refine va_iast S.1 S.2.1 hK.1 hP hD hS 1 0 rfl rfl (by unfold vp_in; decide) dX5_append_30 (fun H locs hP hD hS => ?_)
  have hP : va_P D vwCl [(tp, .inr (5, [.ref by_, .int 4, .int 0, .int 0, .int 0, .int 0])), (by_, .inl (cI, 400, .inl (upd f_32 (4 : Int32).toNatClampNeg (x_39))))] H := hP
  have hD : va_D A [(tp, .inr (5, [.ref by_, .int 4, .int 0, .int 0, .int 0, .int 0])), (by_, .inl (cI, 400, .inl (upd f_32 (4 : Int32).toNatClampNeg (x_39))))] := hD
  generalize (upd f_32 (4 : Int32).toNatClampNeg (x_39)) = f_40 at hP hD
  refine lv_aload_n S.1 S.2.1 dX5_append_31 rfl (lv_at hl 1 rfl) ?_
  refine lv_dup S.1 S.2.1 dX5_append_32 rfl ?_
  refine b_get (v := .int 4) S iX5 hK hP 0 rfl rfl 1 (by decide) (by decide +kernel) rfl dX5_append_33 ?_
  refine lv_iconst (v := 1) S.1 S.2.1 dX5_append_36 (by decide) ?_
  refine lv_iadd S.1 S.2.1 dX5_append_37 ?_
  refine lv_topi (fun x_41 ex_41 => ?_)
  have ex_41 : x_41 = 5 := by rw [ex_41]; decide
  subst ex_41
  refine b_put (v := .int 5) S iX5 tyX5 tyX5_ok nmX5 hK hP hD hS 0 rfl rfl 1 (by decide) (by decide +kernel) rfl rfl rfl (Nat.le_of_ble_eq_true rfl) dX5_append_38 (fun H locs hP hD hS => ?_)
  have hP : va_P D vwCl [(tp, .inr (5, [.ref by_, .int 5, .int 0, .int 0, .int 0, .int 0])), (by_, .inl (cI, 400, .inl f_40))] H := hP
  have hD : va_D A [(tp, .inr (5, [.ref by_, .int 5, .int 0, .int 0, .int 0, .int 0])), (by_, .inl (cI, 400, .inl f_40))] := hD
  refine lv_iinc (v := 2) (lv' := [(4, .int 2), (0, .ref tp), (1, .long wv), (3, .int 8)]) S.1 S.2.1 dX5_append_41 hl (k := 0) rfl (by decide) (by decide) rfl (fun ls hl => ?_)
  refine lv_goto (tgt := 5) S.1 S.2.1 dX5_append_44 (by decide) ?_
  refine lv_iload S.1 S.2.1 dX5_append_5 (lv_at hl 0 rfl) ?_
  refine lv_if_lt (tgt := 47) S.1 S.2.1 dX5_append_7 (by decide) (fun c_42 => absurd c_42 (by decide)) (fun c_42 => ?_)
  refine lv_aload_n S.1 S.2.1 dX5_append_10 rfl (lv_at hl 1 rfl) ?_
  refine b_get (v := .ref by_) S iX5 hK hP 0 rfl rfl 0 (by decide) (by decide +kernel) rfl dX5_append_11 ?_
  refine lv_aload_n S.1 S.2.1 dX5_append_14 rfl (lv_at hl 1 rfl) ?_
  refine b_get (v := .int 5) S iX5 hK hP 0 rfl rfl 1 (by decide) (by decide +kernel) rfl dX5_append_15 ?_
  refine lv_lload_n S.1 S.2.1 dX5_append_18 rfl (lv_at hl 2 rfl) ?_
  refine lv_bipush (v := 8) S.1 S.2.1 dX5_append_19 (by decide) ?_
  refine lv_iload S.1 S.2.1 dX5_append_21 (lv_at hl 0 rfl) ?_
  refine lv_imul S.1 S.2.1 dX5_append_23 ?_
  refine lv_topi (fun x_43 ex_43 => ?_)
  have ex_43 : x_43 = 16 := by rw [ex_43]; decide
  subst ex_43
  refine lv_lushr S.1 S.2.1 dX5_append_24 rfl ?_
  refine lv_topl (fun z_44 ez_44 => ?_)
  refine lv_l2i S.1 S.2.1 dX5_append_25 rfl ?_
  refine lv_topi (fun x_46 ex_46 => ?_)
  refine lv_sipush (v := 255) S.1 S.2.1 dX5_append_26 (by decide) ?_
  refine lv_iand S.1 S.2.1 dX5_append_29 ?_
  refine lv_topi (fun x_47 ex_47 => ?_)
  refine va_iast S.1 S.2.1 hK.1 hP hD hS 1 0 rfl rfl (by unfold vp_in; decide) dX5_append_30 (fun H locs hP hD hS => ?_)
  have hP : va_P D vwCl [(tp, .inr (5, [.ref by_, .int 5, .int 0, .int 0, .int 0, .int 0])), (by_, .inl (cI, 400, .inl (upd f_40 (5 : Int32).toNatClampNeg (x_47))))] H := hP
  have hD : va_D A [(tp, .inr (5, [.ref by_, .int 5, .int 0, .int 0, .int 0, .int 0])), (by_, .inl (cI, 400, .inl (upd f_40 (5 : Int32).toNatClampNeg (x_47))))] := hD
  generalize (upd f_40 (5 : Int32).toNatClampNeg (x_47)) = f_48 at hP hD
  refine lv_aload_n S.1 S.2.1 dX5_append_31 rfl (lv_at hl 1 rfl) ?_
  refine lv_dup S.1 S.2.1 dX5_append_32 rfl ?_
  refine b_get (v := .int 5) S iX5 hK hP 0 rfl rfl 1 (by decide) (by decide +kernel) rfl dX5_append_33 ?_
  refine lv_iconst (v := 1) S.1 S.2.1 dX5_append_36 (by decide) ?_
  refine lv_iadd S.1 S.2.1 dX5_append_37 ?_
  refine lv_topi (fun x_49 ex_49 => ?_)
  have ex_49 : x_49 = 6 := by rw [ex_49]; decide
  subst ex_49
  refine b_put (v := .int 6) S iX5 tyX5 tyX5_ok nmX5 hK hP hD hS 0 rfl rfl 1 (by decide) (by decide +kernel) rfl rfl rfl (Nat.le_of_ble_eq_true rfl) dX5_append_38 (fun H locs hP hD hS => ?_)
  have hP : va_P D vwCl [(tp, .inr (5, [.ref by_, .int 6, .int 0, .int 0, .int 0, .int 0])), (by_, .inl (cI, 400, .inl f_48))] H := hP
  have hD : va_D A [(tp, .inr (5, [.ref by_, .int 6, .int 0, .int 0, .int 0, .int 0])), (by_, .inl (cI, 400, .inl f_48))] := hD
  refine lv_iinc (v := 1) (lv' := [(4, .int 1), (0, .ref tp), (1, .long wv), (3, .int 8)]) S.1 S.2.1 dX5_append_41 hl (k := 0) rfl (by decide) (by decide) rfl (fun ls hl => ?_)
  refine lv_goto (tgt := 5) S.1 S.2.1 dX5_append_44 (by decide) ?_
  refine lv_iload S.1 S.2.1 dX5_append_5 (lv_at hl 0 rfl) ?_
  refine lv_if_lt (tgt := 47) S.1 S.2.1 dX5_append_7 (by decide) (fun c_50 => absurd c_50 (by decide)) (fun c_50 => ?_)
  refine lv_aload_n S.1 S.2.1 dX5_append_10 rfl (lv_at hl 1 rfl) ?_
  refine b_get (v := .ref by_) S iX5 hK hP 0 rfl rfl 0 (by decide) (by decide +kernel) rfl dX5_append_11 ?_
  refine lv_aload_n S.1 S.2.1 dX5_append_14 rfl (lv_at hl 1 rfl) ?_
  refine b_get (v := .int 6) S iX5 hK hP 0 rfl rfl 1 (by decide) (by decide +kernel) rfl dX5_append_15 ?_
  refine lv_lload_n S.1 S.2.1 dX5_append_18 rfl (lv_at hl 2 rfl) ?_
  refine lv_bipush (v := 8) S.1 S.2.1 dX5_append_19 (by decide) ?_
  refine lv_iload S.1 S.2.1 dX5_append_21 (lv_at hl 0 rfl) ?_
  refine lv_imul S.1 S.2.1 dX5_append_23 ?_
  refine lv_topi (fun x_51 ex_51 => ?_)
  have ex_51 : x_51 = 8 := by rw [ex_51]; decide
  subst ex_51
  refine lv_lushr S.1 S.2.1 dX5_append_24 rfl ?_
  refine lv_topl (fun z_52 ez_52 => ?_)
  refine lv_l2i S.1 S.2.1 dX5_append_25 rfl ?_
  refine lv_topi (fun x_54 ex_54 => ?_)
  refine lv_sipush (v := 255) S.1 S.2.1 dX5_append_26 (by decide) ?_
  refine lv_iand S.1 S.2.1 dX5_append_29 ?_
  refine lv_topi (fun x_55 ex_55 => ?_)
  refine va_iast S.1 S.2.1 hK.1 hP hD hS 1 0 rfl rfl (by unfold vp_in; decide) dX5_append_30 (fun H locs hP hD hS => ?_)
  have hP : va_P D vwCl [(tp, .inr (5, [.ref by_, .int 6, .int 0, .int 0, .int 0, .int 0])), (by_, .inl (cI, 400, .inl (upd f_48 (6 : Int32).toNatClampNeg (x_55))))] H := hP
  have hD : va_D A [(tp, .inr (5, [.ref by_, .int 6, .int 0, .int 0, .int 0, .int 0])), (by_, .inl (cI, 400, .inl (upd f_48 (6 : Int32).toNatClampNeg (x_55))))] := hD
  generalize (upd f_48 (6 : Int32).toNatClampNeg (x_55)) = f_56 at hP hD
  refine lv_aload_n S.1 S.2.1 dX5_append_31 rfl (lv_at hl 1 rfl) ?_
  refine lv_dup S.1 S.2.1 dX5_append_32 rfl ?_
  refine b_get (v := .int 6) S iX5 hK hP 0 rfl rfl 1 (by decide) (by decide +kernel) rfl dX5_append_33 ?_
  refine lv_iconst (v := 1) S.1 S.2.1 dX5_append_36 (by decide) ?_
  refine lv_iadd S.1 S.2.1 dX5_append_37 ?_
  refine lv_topi (fun x_57 ex_57 => ?_)
  have ex_57 : x_57 = 7 := by rw [ex_57]; decide
  subst ex_57
  refine b_put (v := .int 7) S iX5 tyX5 tyX5_ok nmX5 hK hP hD hS 0 rfl rfl 1 (by decide) (by decide +kernel) rfl rfl rfl (Nat.le_of_ble_eq_true rfl) dX5_append_38 (fun H locs hP hD hS => ?_)
  have hP : va_P D vwCl [(tp, .inr (5, [.ref by_, .int 7, .int 0, .int 0, .int 0, .int 0])), (by_, .inl (cI, 400, .inl f_56))] H := hP
  have hD : va_D A [(tp, .inr (5, [.ref by_, .int 7, .int 0, .int 0, .int 0, .int 0])), (by_, .inl (cI, 400, .inl f_56))] := hD
  refine lv_iinc (v := 0) (lv' := [(4, .int 0), (0, .ref tp), (1, .long wv), (3, .int 8)]) S.1 S.2.1 dX5_append_41 hl (k := 0) rfl (by decide) (by decide) rfl (fun ls hl => ?_)
  refine lv_goto (tgt := 5) S.1 S.2.1 dX5_append_44 (by decide) ?_
  refine lv_iload S.1 S.2.1 dX5_append_5 (lv_at hl 0 rfl) ?_
  refine lv_if_lt (tgt := 47) S.1 S.2.1 dX5_append_7 (by decide) (fun c_58 => absurd c_58 (by decide)) (fun c_58 => ?_)
  refine lv_aload_n S.1 S.2.1 dX5_append_10 rfl (lv_at hl 1 rfl) ?_
  refine b_get (v := .ref by_) S iX5 hK hP 0 rfl rfl 0 (by decide) (by decide +kernel) rfl dX5_append_11 ?_
  refine lv_aload_n S.1 S.2.1 dX5_append_14 rfl (lv_at hl 1 rfl) ?_
  refine b_get (v := .int 7) S iX5 hK hP 0 rfl rfl 1 (by decide) (by decide +kernel) rfl dX5_append_15 ?_
  refine lv_lload_n S.1 S.2.1 dX5_append_18 rfl (lv_at hl 2 rfl) ?_
  refine lv_bipush (v := 8) S.1 S.2.1 dX5_append_19 (by decide) ?_
  refine lv_iload S.1 S.2.1 dX5_append_21 (lv_at hl 0 rfl) ?_
  refine lv_imul S.1 S.2.1 dX5_append_23 ?_
  refine lv_topi (fun x_59 ex_59 => ?_)
  have ex_59 : x_59 = 0 := by rw [ex_59]; decide
  subst ex_59
  refine lv_lushr S.1 S.2.1 dX5_append_24 rfl ?_
  refine lv_topl (fun z_60 ez_60 => ?_)
  refine lv_l2i S.1 S.2.1 dX5_append_25 rfl ?_
  refine lv_topi (fun x_62 ex_62 => ?_)
  refine lv_sipush (v := 255) S.1 S.2.1 dX5_append_26 (by decide) ?_
  refine lv_iand S.1 S.2.1 dX5_append_29 ?_
  refine lv_topi (fun x_63 ex_63 => ?_)
  refine va_iast S.1 S.2.1 hK.1 hP hD hS 1 0 rfl rfl (by unfold vp_in; decide) dX5_append_30 (fun H locs hP hD hS => ?_)
  have hP : va_P D vwCl [(tp, .inr (5, [.ref by_, .int 7, .int 0, .int 0, .int 0, .int 0])), (by_, .inl (cI, 400, .inl (upd f_56 (7 : Int32).toNatClampNeg (x_63))))] H := hP
  have hD : va_D A [(tp, .inr (5, [.ref by_, .int 7, .int 0, .int 0, .int 0, .int 0])), (by_, .inl (cI, 400, .inl (upd f_56 (7 : Int32).toNatClampNeg (x_63))))] := hD
  generalize (upd f_56 (7 : Int32).toNatClampNeg (x_63)) = f_64 at hP hD
  refine lv_aload_n S.1 S.2.1 dX5_append_31 rfl (lv_at hl 1 rfl) ?_
  refine lv_dup S.1 S.2.1 dX5_append_32 rfl ?_
  refine b_get (v := .int 7) S iX5 hK hP 0 rfl rfl 1 (by decide) (by decide +kernel) rfl dX5_append_33 ?_
  refine lv_iconst (v := 1) S.1 S.2.1 dX5_append_36 (by decide) ?_
  refine lv_iadd S.1 S.2.1 dX5_append_37 ?_
  refine lv_topi (fun x_65 ex_65 => ?_)
  have ex_65 : x_65 = 8 := by rw [ex_65]; decide
  subst ex_65
  refine b_put (v := .int 8) S iX5 tyX5 tyX5_ok nmX5 hK hP hD hS 0 rfl rfl 1 (by decide) (by decide +kernel) rfl rfl rfl (Nat.le_of_ble_eq_true rfl) dX5_append_38 (fun H locs hP hD hS => ?_)
  have hP : va_P D vwCl [(tp, .inr (5, [.ref by_, .int 8, .int 0, .int 0, .int 0, .int 0])), (by_, .inl (cI, 400, .inl f_64))] H := hP
  have hD : va_D A [(tp, .inr (5, [.ref by_, .int 8, .int 0, .int 0, .int 0, .int 0])), (by_, .inl (cI, 400, .inl f_64))] := hD
  refine lv_iinc (v := (-1)) (lv' := [(4, .int (-1)), (0, .ref tp), (1, .long wv), (3, .int 8)]) S.1 S.2.1 dX5_append_41 hl (k := 0) rfl (by decide) (by decide) rfl (fun ls hl => ?_)
  refine lv_goto (tgt := 5) S.1 S.2.1 dX5_append_44 (by decide) ?_
  refine lv_iload S.1 S.2.1 dX5_append_5 (lv_at hl 0 rfl) ?_
  refine lv_if_lt (tgt := 47) S.1 S.2.1 dX5_append_7 (by decide) (fun c_66 => ?_) (fun c_66 => absurd c_66 (by decide))
  have hP := hP.sub (ws' := [(tp, .inr (5, [.ref by_, .int 8, .int 0, .int 0, .int 0, .int 0]))]) [0] rfl
  have hD := hD.sub (ws' := [(tp, .inr (5, [.ref by_, .int 8, .int 0, .int 0, .int 0, .int 0]))]) [0] (by decide) rfl
  exact b_vret S.1 S.2.1 X.2.1 X.2.2.1 hP hD hS rfl dX5_append_47
