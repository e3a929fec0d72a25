set_option maxHeartbeats 4000000 in
set_option maxRecDepth 100000 in
/-- the turns of the law -/
theorem law_loop {p : Program} (l : Launch) {e : Env} {s : State} {m : MethodId} {below : List Frame} {meth : Method} {c : Code} (D : va_G) (cI cZ cC cS : ClassId) (sq : Nat → Nat) {b L : Nat} {sc : Nat → Int32} {A : Nat → Prop} (C : lC p s m meth c b L sc A) (hK : kW D (tyW cI cZ cC cS) sq s) (hT : sT sq A s s.heap) (ad ay : Nat → Nat) (fq fim : Nat → Option Nat) (hL : L ≤ 3072) : ∀ (n : Nat) (i : Int32), (0 ≤ i.toInt ∧ i.toInt ≤ L) → (L + 6 - i.toInt).toNat < n → ∀ (ln sn : Nat → Int32) (tz : Int32) (bf : Nat → Int32) (lt th k0 k1 : Int32) (g g0 g1 : Nat → Int) (tn : Int32) (tb : Nat → Int32) (iz : Nat → Int32) (fz : Int32) (wx wy : va_W) (H : Heap) (locs : List Loc) (ls : Array Slot), IX cI cC cS ad fq fim ln sn tz bf lt th k0 k1 g g0 g1 tn tb iz fz wx → IY cI cZ ay ln sn tz bf lt th k0 k1 g g0 g1 tn tb iz fz wy → va_P D vwCl (wx ++ wy) H → va_D A (wx ++ wy) → va_S A s.heap H locs → lv_has ls 4 [(3, .int i), (2, .ref (ay 0)), (1, .ref (ad 0)), (0, .ref b)] → W p l e room_1 s m #[Value.ref b] below meth c H locs 98 12032 (lw_Z below #[Value.ref b] s) (F0 m 18 ls []) := by
  obtain ⟨S, hr_, hk_, hX, hbl, hA, hAf⟩ := id C
  have hbA : ¬ A b := fun z => absurd (hAf b z) (Nat.not_le.mpr hbl)
  intro n
  induction n with
  | zero => intro i _ hm; exact absurd hm (Nat.not_lt_zero _)
  | succ n ih =>
    intro i hi hm ln sn tz bf lt th k0 k1 g g0 g1 tn tb iz fz wx wy H locs ls hX_ hY_ hP hD hS hl
    refine lv_iload_n S.1 S.2.1 dL_law_18 rfl (lv_at hl 0 rfl) ?_
    refine lv_aload_n S.1 S.2.1 dL_law_19 rfl (lv_at hl 3 rfl) ?_
    refine va_slen S.1 S.2.1 hX hbl hbA hS dL_law_20 ?_
    refine lv_bipush (v := 6) S.1 S.2.1 dL_law_21 (by decide) ?_
    refine lv_isub S.1 S.2.1 dL_law_23 ?_
    refine lv_topi (fun x1 ex1 => ?_)
    have tx1 : x1.toInt = (L : Int) - 6 := subI (A := (L : Int)) (B := 6) ex1 (nI_toInt (n := L) (by omega)) rfl (by omega) (by omega)
    refine lv_icmp_gt (tgt := 1040) S.1 S.2.1 dL_law_24 (by decide) (fun c1 => ?_) (fun c1 => ?_)
    · exact law_end S hr_ hk_ hAf hS (by decide) (by decide)
    · rw [lt2 (a := x1) (b := i) (A := x1.toInt) (B := i.toInt) rfl rfl] at c1
      have hi6 : 0 ≤ i.toInt ∧ i.toInt + 6 ≤ L := by omega
      have tail : ∀ (ln sn : Nat → Int32) (tz : Int32) (bf : Nat → Int32) (lt th k0 k1 : Int32) (g g0 g1 : Nat → Int) (tn : Int32) (tb : Nat → Int32) (iz : Nat → Int32) (fz : Int32) (wx wy : va_W) (H : Heap) (locs : List Loc) (ls : Array Slot), IX cI cC cS ad fq fim ln sn tz bf lt th k0 k1 g g0 g1 tn tb iz fz wx → IY cI cZ ay ln sn tz bf lt th k0 k1 g g0 g1 tn tb iz fz wy → va_P D vwCl (wx ++ wy) H → va_D A (wx ++ wy) → va_S A s.heap H locs → lv_has ls 4 [(3, .int i), (2, .ref (ay 0)), (1, .ref (ad 0)), (0, .ref b)] → W p l e room_1 s m #[Value.ref b] below meth c H locs 98 12032 (lw_Z below #[Value.ref b] s) (F0 m 1034 ls []) := by
        intro ln sn tz bf lt th k0 k1 g g0 g1 tn tb iz fz wx wy H locs ls hX_ hY_ hP hD hS hl
        obtain ⟨x2, ex2⟩ : ∃ y : Int32, y = i + Int32.ofInt (6) := ⟨_, rfl⟩
        refine lv_iinc (v := x2) (lv' := [(3, .int x2), (2, .ref (ay 0)), (1, .ref (ad 0)), (0, .ref b)]) S.1 S.2.1 dL_law_1034 hl (k := 0) rfl ex2.symm (by decide) rfl (fun ls hl => ?_)
        have tx2 : x2.toInt = i.toInt + (6) := addI (A := i.toInt) (B := 6) ex2 rfl rfl (by omega) (by omega)
        refine lv_goto (tgt := 18) S.1 S.2.1 dL_law_1037 (by decide) ?_
        exact ih x2 (by omega) (by omega) ln sn tz bf lt th k0 k1 g g0 g1 tn tb iz fz wx wy H locs ls hX_ hY_ hP hD hS hl
      refine lv_aload_n S.1 S.2.1 dL_law_27 rfl (lv_at hl 3 rfl) ?_
      refine lv_iload_n S.1 S.2.1 dL_law_28 rfl (lv_at hl 0 rfl) ?_
      refine va_sld S.1 S.2.1 hX hbl hbA hS (in_of (by omega) (by omega)) dL_law_29 ?_
      refine lv_topi (fun v0 ev0 => ?_)
      refine lv_bipush (v := 31) S.1 S.2.1 dL_law_30 (by decide) ?_
      refine lv_iand S.1 S.2.1 dL_law_32 ?_
      refine lv_topi (fun x2 ex2 => ?_)
      obtain ⟨j, hj, ej⟩ := pk_andE v0 (m := 31) 5 rfl
      have ex2 : x2 = nI j := ex2.trans ej
      subst ex2
      rcases (show j = 0 ∨ j = 1 ∨ j = 2 ∨ j = 3 ∨ j = 4 ∨ j = 5 ∨ j = 6 ∨ j = 7 ∨ j = 8 ∨ j = 9 ∨ j = 10 ∨ j = 11 ∨ j = 12 ∨ j = 13 ∨ j = 14 ∨ j = 15 ∨ j = 16 ∨ j = 17 ∨ j = 18 ∨ j = 19 ∨ j = 20 ∨ j = 21 ∨ j = 22 ∨ j = 23 ∨ j = 24 ∨ j = 25 ∨ j = 26 ∨ j = 27 ∨ 28 ≤ j by omega) with rfl | rfl | rfl | rfl | rfl | rfl | rfl | rfl | rfl | rfl | rfl | rfl | rfl | rfl | rfl | rfl | rfl | rfl | rfl | rfl | rfl | rfl | rfl | rfl | rfl | rfl | rfl | rfl | hj2
      · refine lv_tableIn (off := 127) (tgt := 160) S.1 S.2.1 dL_law_33 (by decide) (by decide) (by decide) (by decide) ?_
        exact law_sheet l D cI cZ cC cS sq C hK hT ad ay fq fim hL i hi6 tail hX_ hY_ hP hD hS hl
      · refine lv_tableIn (off := 170) (tgt := 203) S.1 S.2.1 dL_law_33 (by decide) (by decide) (by decide) (by decide) ?_
        exact law_set l D cI cZ cC cS sq C hK hT ad ay fq fim hL i hi6 tail hX_ hY_ hP hD hS hl
      · refine lv_tableIn (off := 213) (tgt := 246) S.1 S.2.1 dL_law_33 (by decide) (by decide) (by decide) (by decide) ?_
        exact law_copy l D cI cZ cC cS sq C hK hT ad ay fq fim hL i hi6 tail hX_ hY_ hP hD hS hl
      · refine lv_tableIn (off := 276) (tgt := 309) S.1 S.2.1 dL_law_33 (by decide) (by decide) (by decide) (by decide) ?_
        exact law_drop l D cI cZ cC cS sq C hK hT ad ay fq fim hL i hi6 tail hX_ hY_ hP hD hS hl
      · refine lv_tableIn (off := 299) (tgt := 332) S.1 S.2.1 dL_law_33 (by decide) (by decide) (by decide) (by decide) ?_
        exact law_feed l D cI cZ cC cS sq C hK hT ad ay fq fim hL i hi6 tail hX_ hY_ hP hD hS hl
      · refine lv_tableIn (off := 362) (tgt := 395) S.1 S.2.1 dL_law_33 (by decide) (by decide) (by decide) (by decide) ?_
        exact law_city l D cI cZ cC cS sq C hK hT ad ay fq fim hL i hi6 tail hX_ hY_ hP hD hS hl
      · refine lv_tableIn (off := 375) (tgt := 408) S.1 S.2.1 dL_law_33 (by decide) (by decide) (by decide) (by decide) ?_
        exact law_fault l D cI cZ cC cS sq C hK hT ad ay fq fim hL i hi6 tail hX_ hY_ hP hD hS hl
      · refine lv_tableIn (off := 388) (tgt := 421) S.1 S.2.1 dL_law_33 (by decide) (by decide) (by decide) (by decide) ?_
        exact law_look l D cI cZ cC cS sq C hK hT ad ay fq fim hL i hi6 tail hX_ hY_ hP hD hS hl
      · refine lv_tableIn (off := 431) (tgt := 464) S.1 S.2.1 dL_law_33 (by decide) (by decide) (by decide) (by decide) ?_
        exact law_price l D cI cZ cC cS sq C hK hT ad ay fq fim hL i hi6 tail hX_ hY_ hP hD hS hl
      · refine lv_tableIn (off := 464) (tgt := 497) S.1 S.2.1 dL_law_33 (by decide) (by decide) (by decide) (by decide) ?_
        exact law_step l D cI cZ cC cS sq C hK hT ad ay fq fim hL i hi6 tail hX_ hY_ hP hD hS hl
      · refine lv_tableIn (off := 497) (tgt := 530) S.1 S.2.1 dL_law_33 (by decide) (by decide) (by decide) (by decide) ?_
        exact law_walk l D cI cZ cC cS sq C hK hT ad ay fq fim hL i hi6 tail hX_ hY_ hP hD hS hl
      · refine lv_tableIn (off := 550) (tgt := 583) S.1 S.2.1 dL_law_33 (by decide) (by decide) (by decide) (by decide) ?_
        exact law_person l D cI cZ cC cS sq C hK hT ad ay fq fim hL i hi6 tail hX_ hY_ hP hD hS hl
      · refine lv_tableIn (off := 583) (tgt := 616) S.1 S.2.1 dL_law_33 (by decide) (by decide) (by decide) (by decide) ?_
        exact law_got l D cI cZ cC cS sq C hK hT ad ay fq fim hL i hi6 tail hX_ hY_ hP hD hS hl
      · refine lv_tableIn (off := 606) (tgt := 639) S.1 S.2.1 dL_law_33 (by decide) (by decide) (by decide) (by decide) ?_
        exact law_witnesses l D cI cZ cC cS sq C hK hT ad ay fq fim hL i hi6 tail hX_ hY_ hP hD hS hl
      · refine lv_tableIn (off := 629) (tgt := 662) S.1 S.2.1 dL_law_33 (by decide) (by decide) (by decide) (by decide) ?_
        exact law_home l D cI cZ cC cS sq C hK hT ad ay fq fim hL i hi6 tail hX_ hY_ hP hD hS hl
      · refine lv_tableIn (off := 672) (tgt := 705) S.1 S.2.1 dL_law_33 (by decide) (by decide) (by decide) (by decide) ?_
        exact law_nothing l D cI cZ cC cS sq C hK hT ad ay fq fim hL i hi6 tail hX_ hY_ hP hD hS hl
      · refine lv_tableIn (off := 695) (tgt := 728) S.1 S.2.1 dL_law_33 (by decide) (by decide) (by decide) (by decide) ?_
        exact law_beauty l D cI cZ cC cS sq C hK hT ad ay fq fim hL i hi6 tail hX_ hY_ hP hD hS hl
      · refine lv_tableIn (off := 718) (tgt := 751) S.1 S.2.1 dL_law_33 (by decide) (by decide) (by decide) (by decide) ?_
        exact law_earns l D cI cZ cC cS sq C hK hT ad ay fq fim hL i hi6 tail hX_ hY_ hP hD hS hl
      · refine lv_tableIn (off := 751) (tgt := 784) S.1 S.2.1 dL_law_33 (by decide) (by decide) (by decide) (by decide) ?_
        exact law_rivals l D cI cZ cC cS sq C hK hT ad ay fq fim hL i hi6 tail hX_ hY_ hP hD hS hl
      · refine lv_tableIn (off := 774) (tgt := 807) S.1 S.2.1 dL_law_33 (by decide) (by decide) (by decide) (by decide) ?_
        exact law_wall l D cI cZ cC cS sq C hK hT ad ay fq fim hL i hi6 tail hX_ hY_ hP hD hS hl
      · refine lv_tableIn (off := 807) (tgt := 840) S.1 S.2.1 dL_law_33 (by decide) (by decide) (by decide) (by decide) ?_
        exact law_image l D cI cZ cC cS sq C hK hT ad ay fq fim hL i hi6 tail hX_ hY_ hP hD hS hl
      · refine lv_tableIn (off := 830) (tgt := 863) S.1 S.2.1 dL_law_33 (by decide) (by decide) (by decide) (by decide) ?_
        exact law_restore l D cI cZ cC cS sq C hK hT ad ay fq fim hL i hi6 tail hX_ hY_ hP hD hS hl
      · refine lv_tableIn (off := 853) (tgt := 886) S.1 S.2.1 dL_law_33 (by decide) (by decide) (by decide) (by decide) ?_
        exact law_kind l D cI cZ cC cS sq C hK hT ad ay fq fim hL i hi6 tail hX_ hY_ hP hD hS hl
      · refine lv_tableIn (off := 876) (tgt := 909) S.1 S.2.1 dL_law_33 (by decide) (by decide) (by decide) (by decide) ?_
        exact law_as l D cI cZ cC cS sq C hK hT ad ay fq fim hL i hi6 tail hX_ hY_ hP hD hS hl
      · refine lv_tableIn (off := 909) (tgt := 942) S.1 S.2.1 dL_law_33 (by decide) (by decide) (by decide) (by decide) ?_
        exact law_ask l D cI cZ cC cS sq C hK hT ad ay fq fim hL i hi6 tail hX_ hY_ hP hD hS hl
      · refine lv_tableIn (off := 942) (tgt := 975) S.1 S.2.1 dL_law_33 (by decide) (by decide) (by decide) (by decide) ?_
        exact law_trace l D cI cZ cC cS sq C hK hT ad ay fq fim hL i hi6 tail hX_ hY_ hP hD hS hl
      · refine lv_tableIn (off := 965) (tgt := 998) S.1 S.2.1 dL_law_33 (by decide) (by decide) (by decide) (by decide) ?_
        exact law_count l D cI cZ cC cS sq C hK hT ad ay fq fim hL i hi6 tail hX_ hY_ hP hD hS hl
      · refine lv_tableIn (off := 988) (tgt := 1021) S.1 S.2.1 dL_law_33 (by decide) (by decide) (by decide) (by decide) ?_
        exact law_status l D cI cZ cC cS sq C hK hT ad ay fq fim hL i hi6 tail hX_ hY_ hP hD hS hl
      · refine lv_tableOut (tgt := 1034) S.1 S.2.1 dL_law_33 (Or.inr (by rw [nI_toInt (by omega)]; omega)) (by decide) ?_
        exact tail ln sn tz bf lt th k0 k1 g g0 g1 tn tb iz fz wx wy H _ ls hX_ hY_ hP hD hS hl
