theorem arr_int {args : Array Value} {s : State} (h : (Cond.arrayClass .int).before args s = true) : ∃ cA : ClassId, ArrOfT s cA .int ∧ va_RA s cA .int := by
  obtain ⟨cA, kA, comp, h1, h2, h3⟩ := Cond.arrayClass_spec h
  exact ⟨cA, fun n z => ⟨fun k h => (by cases h), kA, h2, comp, h3⟩, h1⟩
theorem arr_bool {args : Array Value} {s : State} (h : (Cond.arrayClass .boolean).before args s = true) : ∃ cA : ClassId, ArrOfT s cA .boolean ∧ va_RA s cA .boolean := by
  obtain ⟨cA, kA, comp, h1, h2, h3⟩ := Cond.arrayClass_spec h
  exact ⟨cA, fun n z => ⟨fun k h => (by cases h), kA, h2, comp, h3⟩, h1⟩
theorem arr_obj {C : String} {args : Array Value} {s : State} (h : (Cond.arrayOver (.object C)).before args s = true) : ∃ cA : ClassId, ArrOfT s cA (.object C) ∧ va_RA s cA (.object C) := by
  obtain ⟨comp, cA, kA, h1, -, h2, h3, h4⟩ := Cond.arrayOver_spec h
  exact ⟨cA, fun n z => ⟨fun k h => (by cases h), kA, h2, comp, h3⟩, kA, comp, h2, h3, h1, h4⟩
theorem st_of {args : Array Value} {s : State} {A : Nat → Prop} {C n : String} {N : Nat} {li : List Int32} (hN : N < 2 ^ 31) (hl : (Cond.laysStatic C n "[I").before args s = true) (hini : (Cond.initialized C).before args s = true) (harr : (Cond.arrayOf (.static C n "[I") .int).before args s = true) (hlen : (Cond.eq (.length (.static C n "[I")) (.int (Int32.ofNat N))).before args s = true) (hel : ∀ j : Nat, j < N → (Cond.eq (.elem (.static C n "[I") (.int (Int32.ofNat j))) (.int (li.getD j 0))).before args s = true) (hA : ∀ a : Nat, a < s.heap.size → ¬ A a) : ∃ t : Nat, va_Z C n "[I" (.ref t) A s s.heap ∧ va_T .int t N (lF li) A s s.heap := by
  obtain ⟨t, ht, hT⟩ := va_Tof (f := lF li) (A := A) hN harr (va_eqt hlen) (fun j hj => va_eqt (hel j hj)) hA
  exact ⟨t, va_Zof hl hini ht hA, hT⟩
theorem vk_congr {N : Nat} {len : List Nat} {byt : List (List Int32)} {adK adV f g : Nat → Nat} {A : Nat → Prop} {U : State} {H : Heap} (hf : ∀ i : Nat, i < N → f i = adK i) (hg : ∀ i : Nat, i < N → g i = adV i) (h : vk_S N len byt adK adV A U H) : vk_S N len byt f g A U H :=
  ⟨fun i hi => by rw [hf i hi, hg i hi]; exact h.1 i hi, fun i j hi hj e => h.2 i j hi hj (by rw [hf i hi, hf j hj] at e; exact e)⟩
def wordI : List Nat := [36, 99, 107, 117, 125, 127]
def wordT (i : Nat) : Term := .string RX3 (wordI.getD i 0)
set_option maxHeartbeats 4000000 in
set_option maxRecDepth 100000 in
/-- what the tables say at the law's entry, in the words of this walk -/
theorem law_known {p : Program} {s : State} {m : MethodId} {meth : Method} {c : Code} {b L : Nat} {sc : Nat → Int32} (C0 : lw_At p s m meth c b L sc) : ∃ (D : va_G) (cI cZ cC cS : ClassId) (sq : Nat → Nat), kW D (tyW cI cZ cC cS) sq s ∧ sT sq (fun q => s.heap.size ≤ q) s s.heap := by
  obtain ⟨hx, hb, hr, hml, hown, hts, hX, hbl, hlocks, hgv⟩ := id C0
  obtain ⟨cI, aI⟩ := arr_int (hts (.arrayClass .int) (List.mem_of_getElem? (i := 140) (by decide +kernel)))
  obtain ⟨cZ, aZ⟩ := arr_bool (hts (.arrayClass .boolean) (List.mem_of_getElem? (i := 1040) (by decide +kernel)))
  have oC := hts (.arrayOver (.object RX1)) (List.mem_of_getElem? (i := 230) (by decide +kernel))
  have oS := hts (.arrayOver (.object RX4)) (List.mem_of_getElem? (i := 108) (by decide +kernel))
  obtain ⟨cC, aC⟩ := arr_obj oC
  obtain ⟨cS, aS⟩ := arr_obj oS
  obtain ⟨c0, iS0, hKn0⟩ := u_known (C := RX0) (T := TX0) (N := 3) (n := 3) hts inX0 (hts (.instantiable RX0 3) (List.mem_of_getElem? (i := 321) (by decide +kernel)))
  obtain ⟨c1, iS1, hKn1⟩ := u_known (C := RX1) (T := TX1) (N := 12) (n := 12) hts inX1 (hts (.instantiable RX1 12) (List.mem_of_getElem? (i := 142) (by decide +kernel)))
  obtain ⟨c2, iS2, hKn2⟩ := u_known (C := RX2) (T := TX2) (N := 5) (n := 5) hts inX2 (hts (.instantiable RX2 5) (List.mem_of_getElem? (i := 298) (by decide +kernel)))
  obtain ⟨c3, iS3, hKn3⟩ := u_known (C := RX3) (T := TX3) (N := 4) (n := 4) hts inX3 (hts (.instantiable RX3 4) (List.mem_of_getElem? (i := 210) (by decide +kernel)))
  obtain ⟨c4, iS4, hKn4⟩ := u_known (C := RX4) (T := TX4) (N := 3) (n := 3) hts inX4 (hts (.instantiable RX4 3) (List.mem_of_getElem? (i := 338) (by decide +kernel)))
  obtain ⟨c5, iS5, hKn5⟩ := u_known (C := RX5) (T := TX5) (N := 6) (n := 6) hts inX5 (hts (.instantiable RX5 6) (List.mem_of_getElem? (i := 110) (by decide +kernel)))
  obtain ⟨c6, iS6, hKn6⟩ := u_known (C := RX6) (T := TX6) (N := 4) (n := 4) hts inX6 (hts (.instantiable RX6 4) (List.mem_of_getElem? (i := 232) (by decide +kernel)))
  obtain ⟨c7, iS7, hKn7⟩ := u_known (C := RX7) (T := TX7) (N := 11) (n := 11) hts inX7 (hts (.instantiable RX7 11) (List.mem_of_getElem? (i := 258) (by decide +kernel)))
  obtain ⟨c8, iS8, hKn8⟩ := u_known (C := RX8) (T := TX8) (N := 13) (n := 13) hts inX8 (hts (.instantiable RX8 13) (List.mem_of_getElem? (i := 100) (by decide +kernel)))
  obtain ⟨c9, iS9, hKn9⟩ := u_known (C := RX9) (T := TX9) (N := 29) (n := 29) hts inX9 (hts (.instantiable RX9 29) (List.mem_of_getElem? (i := 947) (by decide +kernel)))
  obtain ⟨D, hKc⟩ : ∃ D : va_G, ∀ (k : Nat) (q : vw_C), vwCl[k]? = some q → u_Kn s q.1 q.2.1 q.2.2 (D.1 k) (D.2 k) := by
    refine ⟨(fun k => match k with | 0 => c0 | 1 => c1 | 2 => c2 | 3 => c3 | 4 => c4 | 5 => c5 | 6 => c6 | 7 => c7 | 8 => c8 | _ => c9, fun k => match k with | 0 => iS0 | 1 => iS1 | 2 => iS2 | 3 => iS3 | 4 => iS4 | 5 => iS5 | 6 => iS6 | 7 => iS7 | 8 => iS8 | _ => iS9), ?_⟩
    intro k q hq
    match k, hq with
    | 0, hq => cases hq; exact hKn0
    | 1, hq => cases hq; exact hKn1
    | 2, hq => cases hq; exact hKn2
    | 3, hq => cases hq; exact hKn3
    | 4, hq => cases hq; exact hKn4
    | 5, hq => cases hq; exact hKn5
    | 6, hq => cases hq; exact hKn6
    | 7, hq => cases hq; exact hKn7
    | 8, hq => cases hq; exact hKn8
    | 9, hq => cases hq; exact hKn9
    | k + 10, hq => simp [vwCl] at hq
  have hs := flat_of_before _ hgv
  have hA0 : ∀ a : Nat, a < s.heap.size → ¬ (fun q : Nat => s.heap.size ≤ q) a := fun a h1 h2 => absurd h1 (Nat.not_lt.mpr h2)
  obtain ⟨t0, zz0, tt0⟩ := st_of (A := fun q => s.heap.size ≤ q) (C := RX8) (n := "EAST") (N := 8) (li := eastL) (by decide) (hts (.laysStatic RX8 "EAST" "[I") (List.mem_of_getElem? (i := 625) (by decide +kernel))) (hts (.initialized RX8) (List.mem_of_getElem? (i := 83) (by decide +kernel))) (hs _ (by decide +kernel)) (hs _ (by decide +kernel)) (by
    intro j hj
    rcases (show j = 0 ∨ j = 1 ∨ j = 2 ∨ j = 3 ∨ j = 4 ∨ j = 5 ∨ j = 6 ∨ j = 7 by omega) with rfl | rfl | rfl | rfl | rfl | rfl | rfl | rfl <;> exact hs _ (by decide +kernel)) hA0
  obtain ⟨t1, zz1, tt1⟩ := st_of (A := fun q => s.heap.size ≤ q) (C := RX8) (n := "SOUTH") (N := 8) (li := southL) (by decide) (hts (.laysStatic RX8 "SOUTH" "[I") (List.mem_of_getElem? (i := 627) (by decide +kernel))) (hts (.initialized RX8) (List.mem_of_getElem? (i := 83) (by decide +kernel))) (hs _ (by decide +kernel)) (hs _ (by decide +kernel)) (by
    intro j hj
    rcases (show j = 0 ∨ j = 1 ∨ j = 2 ∨ j = 3 ∨ j = 4 ∨ j = 5 ∨ j = 6 ∨ j = 7 by omega) with rfl | rfl | rfl | rfl | rfl | rfl | rfl | rfl <;> exact hs _ (by decide +kernel)) hA0
  obtain ⟨t2, zz2, tt2⟩ := st_of (A := fun q => s.heap.size ≤ q) (C := RX0) (n := "WIDER") (N := 6) (li := widerL) (by decide) (hts (.laysStatic RX0 "WIDER" "[I") (List.mem_of_getElem? (i := 894) (by decide +kernel))) (hts (.initialized RX0) (List.mem_of_getElem? (i := 90) (by decide +kernel))) (hs _ (by decide +kernel)) (hs _ (by decide +kernel)) (by
    intro j hj
    rcases (show j = 0 ∨ j = 1 ∨ j = 2 ∨ j = 3 ∨ j = 4 ∨ j = 5 by omega) with rfl | rfl | rfl | rfl | rfl | rfl <;> exact hs _ (by decide +kernel)) hA0
  obtain ⟨t3, zz3, tt3⟩ := st_of (A := fun q => s.heap.size ≤ q) (C := RX0) (n := "SIZE_BODY") (N := 6) (li := sizeL) (by decide) (hts (.laysStatic RX0 "SIZE_BODY" "[I") (List.mem_of_getElem? (i := 908) (by decide +kernel))) (hts (.initialized RX0) (List.mem_of_getElem? (i := 90) (by decide +kernel))) (hs _ (by decide +kernel)) (hs _ (by decide +kernel)) (by
    intro j hj
    rcases (show j = 0 ∨ j = 1 ∨ j = 2 ∨ j = 3 ∨ j = 4 ∨ j = 5 by omega) with rfl | rfl | rfl | rfl | rfl | rfl <;> exact hs _ (by decide +kernel)) hA0
  obtain ⟨t4, zz4, tt4⟩ := st_of (A := fun q => s.heap.size ≤ q) (C := RX0) (n := "MARK_BODY") (N := 6) (li := markL) (by decide) (hts (.laysStatic RX0 "MARK_BODY" "[I") (List.mem_of_getElem? (i := 910) (by decide +kernel))) (hts (.initialized RX0) (List.mem_of_getElem? (i := 90) (by decide +kernel))) (hs _ (by decide +kernel)) (hs _ (by decide +kernel)) (by
    intro j hj
    rcases (show j = 0 ∨ j = 1 ∨ j = 2 ∨ j = 3 ∨ j = 4 ∨ j = 5 by omega) with rfl | rfl | rfl | rfl | rfl | rfl <;> exact hs _ (by decide +kernel)) hA0
  have zc := va_Zof (A := fun q => s.heap.size ≤ q) (C := "java/lang/String") (n := "COMPACT_STRINGS") (d := "Z") (v := .int 1) (hts (.laysStatic "java/lang/String" "COMPACT_STRINGS" "Z") (List.mem_of_getElem? (i := 509) (by decide +kernel))) (hts (.initialized "java/lang/String") (List.mem_of_getElem? (i := 95) (by decide +kernel))) (va_eqt (hs (.eq (.static "java/lang/String" "COMPACT_STRINGS" "Z") (.int 1)) (by decide +kernel))) hA0
  have zf := va_Zqof (A := fun q => s.heap.size ≤ q) (C := "jdk/internal/util/Preconditions") (n := "SIOOBE_FORMATTER") (d := "Ljava/util/function/BiFunction;") (hts (.laysStatic "jdk/internal/util/Preconditions" "SIOOBE_FORMATTER" "Ljava/util/function/BiFunction;") (List.mem_of_getElem? (i := 525) (by decide +kernel))) (hts (.initialized "jdk/internal/util/Preconditions") (List.mem_of_getElem? (i := 97) (by decide +kernel))) (hs _ (by decide +kernel)) hA0
  obtain ⟨adK, adV, hvk, hev⟩ := vk_Sof (args := #[Value.ref b]) (s := s) (N := 6) (tm := wordT) (len := wordN) (byt := wordB) (A := fun q => s.heap.size ≤ q) (by decide) (by intro i hi; rcases (show i = 0 ∨ i = 1 ∨ i = 2 ∨ i = 3 ∨ i = 4 ∨ i = 5 by omega) with rfl | rfl | rfl | rfl | rfl | rfl <;> exact hs _ (by decide +kernel)) (by intro i hi; rcases (show i = 0 ∨ i = 1 ∨ i = 2 ∨ i = 3 ∨ i = 4 ∨ i = 5 by omega) with rfl | rfl | rfl | rfl | rfl | rfl <;> exact hs _ (by decide +kernel)) (by intro i hi; rcases (show i = 0 ∨ i = 1 ∨ i = 2 ∨ i = 3 ∨ i = 4 ∨ i = 5 by omega) with rfl | rfl | rfl | rfl | rfl | rfl <;> exact hs _ (by decide +kernel)) (by intro i hi; rcases (show i = 0 ∨ i = 1 ∨ i = 2 ∨ i = 3 ∨ i = 4 ∨ i = 5 by omega) with rfl | rfl | rfl | rfl | rfl | rfl <;> exact hs _ (by decide +kernel))
    (by intro i hi; rcases (show i = 0 ∨ i = 1 ∨ i = 2 ∨ i = 3 ∨ i = 4 ∨ i = 5 by omega) with rfl | rfl | rfl | rfl | rfl | rfl <;> (intro j hj0; have hj : j < 6 := Nat.lt_of_lt_of_le hj0 (by decide); rcases (show j = 0 ∨ j = 1 ∨ j = 2 ∨ j = 3 ∨ j = 4 ∨ j = 5 by omega) with rfl | rfl | rfl | rfl | rfl | rfl <;> first | exact hs _ (by decide +kernel) | exact absurd hj0 (by decide)))
    (by intro i j hi hj hne; rcases (show i = 0 ∨ i = 1 ∨ i = 2 ∨ i = 3 ∨ i = 4 ∨ i = 5 by omega) with rfl | rfl | rfl | rfl | rfl | rfl <;> rcases (show j = 0 ∨ j = 1 ∨ j = 2 ∨ j = 3 ∨ j = 4 ∨ j = 5 by omega) with rfl | rfl | rfl | rfl | rfl | rfl <;> first | exact absurd rfl hne | exact Or.inl (hs _ (by decide +kernel)) | exact Or.inr (hs _ (by decide +kernel))) hA0
  obtain ⟨sq, hsq⟩ : ∃ sq : Nat → Nat, sq = fun k => if k < 10 then [t0, t1, t2, t3, t4].getD k 0 else if k < 20 then adK (k - 10) else adV (k - 20) := ⟨_, rfl⟩
  have u0 : sq 0 = t0 := by rw [hsq]; rfl
  have u1 : sq 1 = t1 := by rw [hsq]; rfl
  have u2 : sq 2 = t2 := by rw [hsq]; rfl
  have u3 : sq 3 = t3 := by rw [hsq]; rfl
  have u4 : sq 4 = t4 := by rw [hsq]; rfl
  have v0 : sq 10 = adK 0 := by rw [hsq]; rfl
  have v1 : sq 11 = adK 1 := by rw [hsq]; rfl
  have v2 : sq 12 = adK 2 := by rw [hsq]; rfl
  have v3 : sq 13 = adK 3 := by rw [hsq]; rfl
  have v4 : sq 14 = adK 4 := by rw [hsq]; rfl
  have v5 : sq 15 = adK 5 := by rw [hsq]; rfl
  refine ⟨D, cI, cZ, cC, cS, sq, ⟨⟨hKc, fun k q h => ?_⟩, va_AO.of oC, va_AO.of oS, va_Nw.of rfl (hts (.methodLinkNest RX8 17 yX5_init RX8) (List.mem_of_getElem? (i := 111) (by decide +kernel))), va_Nw.of rfl (hts (.methodLinkNest RX8 24 yX1_init RX8) (List.mem_of_getElem? (i := 143) (by decide +kernel))), va_Nw.of rfl (hts (.methodLinkNest RX8 47 yX6_init RX8) (List.mem_of_getElem? (i := 233) (by decide +kernel))), va_Nw.of rfl (hts (.methodLinkNest RX8 89 yX4_init RX8) (List.mem_of_getElem? (i := 339) (by decide +kernel))), va_Nw.of rfl (hts (.fieldLinkNest RX6 32 RX8 "EAST" "[I" RX8) (List.mem_of_getElem? (i := 624) (by decide +kernel))), va_Nw.of rfl (hts (.fieldLinkNest RX6 35 RX8 "SOUTH" "[I" RX8) (List.mem_of_getElem? (i := 626) (by decide +kernel))), va_Nw.of rfl (hts (.fieldLinkNest RX1 69 RX8 "EAST" "[I" RX8) (List.mem_of_getElem? (i := 632) (by decide +kernel))), va_Nw.of rfl (hts (.fieldLinkNest RX1 72 RX8 "SOUTH" "[I" RX8) (List.mem_of_getElem? (i := 633) (by decide +kernel))), (by rw [v0]; exact vk_R.of (hts (.stringRef RX3 36 "row") (List.mem_of_getElem? (i := 491) (by decide +kernel))) (hev 0 (by decide))), (by rw [v1]; exact vk_R.of (hts (.stringRef RX3 99 "price") (List.mem_of_getElem? (i := 577) (by decide +kernel))) (hev 1 (by decide))), (by rw [v2]; exact vk_R.of (hts (.stringRef RX3 107 "free") (List.mem_of_getElem? (i := 586) (by decide +kernel))) (hev 2 (by decide))), (by rw [v3]; exact vk_R.of (hts (.stringRef RX3 117 "person") (List.mem_of_getElem? (i := 591) (by decide +kernel))) (hev 3 (by decide))), (by rw [v4]; exact vk_R.of (hts (.stringRef RX3 125 "child") (List.mem_of_getElem? (i := 608) (by decide +kernel))) (hev 4 (by decide))), (by rw [v5]; exact vk_R.of (hts (.stringRef RX3 127 "guided") (List.mem_of_getElem? (i := 609) (by decide +kernel))) (hev 5 (by decide)))⟩, ⟨(by rw [u0]; exact ⟨zz0, tt0⟩), (by rw [u1]; exact ⟨zz1, tt1⟩), (by rw [u2]; exact ⟨zz2, tt2⟩), (by rw [u3]; exact ⟨zz3, tt3⟩), (by rw [u4]; exact ⟨zz4, tt4⟩), zc, zf, vk_congr (fun i hi => ?_) (fun i hi => ?_) hvk⟩⟩
  · match k, h with
    | 0, h => cases h; exact aI
    | 1, h => cases h; exact aZ
    | 2, h => cases h; exact aC
    | 3, h => cases h; exact aS
    | k + 4, h => simp [tyW] at h
  · show sq (10 + i) = adK i
    rw [hsq]
    show (if 10 + i < 10 then _ else if 10 + i < 20 then adK (10 + i - 10) else _) = adK i
    rw [if_neg (by omega), if_pos (by omega), Nat.add_sub_cancel_left]
  · show sq (20 + i) = adV i
    rw [hsq]
    show (if 20 + i < 10 then _ else if 20 + i < 20 then _ else adV (20 + i - 20)) = adV i
    rw [if_neg (by omega), if_neg (by omega), Nat.add_sub_cancel_left]
