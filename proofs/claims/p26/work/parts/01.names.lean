-- ===== PART A: goes FIRST, ahead of the names: the tables' words, and 'selects' of the private methods out of them =====
/-- a private method of a class that the tables say can be made, by its rows of tables_1 -/
def lw_okq (q : MethodName × Nat) : Prop := (q.1.cls ≠ "java/lang/invoke/MethodHandle" ∧ q.1.cls ≠ "java/lang/invoke/VarHandle") ∧ Cond.instantiable q.1.cls q.2 ∈ tables_1 ∧ Cond.privateMethod q.1 ∈ tables_1 ∧ Cond.instanceMethod q.1 ∈ tables_1
theorem tb_m1 : ∀ w ∈ tables_1_1, w ∈ tables_1 := fun w h => List.mem_append_left _ h
theorem tb_m2 : ∀ w ∈ tables_1_2, w ∈ tables_1 := fun w h => List.mem_append_right _ (List.mem_append_left _ h)
theorem tb_m3 : ∀ w ∈ tables_1_3, w ∈ tables_1 := fun w h => List.mem_append_right _ (List.mem_append_right _ (List.mem_append_left _ h))
theorem tb_m4 : ∀ w ∈ tables_1_4, w ∈ tables_1 := fun w h => List.mem_append_right _ (List.mem_append_right _ (List.mem_append_right _ (List.mem_append_left _ h)))
theorem tb_m5 : ∀ w ∈ tables_1_5, w ∈ tables_1 := fun w h => List.mem_append_right _ (List.mem_append_right _ (List.mem_append_right _ (List.mem_append_right _ (List.mem_append_left _ h))))
theorem tb_m6 : ∀ w ∈ tables_1_6, w ∈ tables_1 := fun w h => List.mem_append_right _ (List.mem_append_right _ (List.mem_append_right _ (List.mem_append_right _ (List.mem_append_right _ (h)))))
theorem nq_c0 : "PricedLooks" ≠ "java/lang/invoke/MethodHandle" ∧ "PricedLooks" ≠ "java/lang/invoke/VarHandle" := ⟨by decide +kernel, by decide +kernel⟩
theorem ni_c0 : Cond.instantiable "PricedLooks" 13 ∈ tables_1 := tb_m1 _ (List.mem_of_getElem? (i := 18) (by first | exact rfl | decide +kernel))
theorem lw_p0 : lw_okq (⟨"PricedLooks", "found", "(I)I"⟩, 13) := ⟨nq_c0, ni_c0, tb_m2 _ (List.mem_of_getElem? (i := 86) (by first | exact rfl | decide +kernel)), tb_m2 _ (List.mem_of_getElem? (i := 87) (by first | exact rfl | decide +kernel))⟩
theorem lw_p1 : lw_okq (⟨"PricedLooks", "fine", "(I)I"⟩, 13) := ⟨nq_c0, ni_c0, tb_m2 _ (List.mem_of_getElem? (i := 98) (by first | exact rfl | decide +kernel)), tb_m2 _ (List.mem_of_getElem? (i := 99) (by first | exact rfl | decide +kernel))⟩
theorem nq_c1 : "PricedLooks$Tape" ≠ "java/lang/invoke/MethodHandle" ∧ "PricedLooks$Tape" ≠ "java/lang/invoke/VarHandle" := ⟨by decide +kernel, by decide +kernel⟩
theorem ni_c1 : Cond.instantiable "PricedLooks$Tape" 6 ∈ tables_1 := tb_m1 _ (List.mem_of_getElem? (i := 28) (by first | exact rfl | decide +kernel))
theorem lw_p2 : lw_okq (⟨"PricedLooks$Tape", "readFigures", "()V"⟩, 6) := ⟨nq_c1, ni_c1, tb_m2 _ (List.mem_of_getElem? (i := 166) (by first | exact rfl | decide +kernel)), tb_m2 _ (List.mem_of_getElem? (i := 167) (by first | exact rfl | decide +kernel))⟩
theorem nq_c2 : "PricedLooks$Reader" ≠ "java/lang/invoke/MethodHandle" ∧ "PricedLooks$Reader" ≠ "java/lang/invoke/VarHandle" := ⟨by decide +kernel, by decide +kernel⟩
theorem ni_c2 : Cond.instantiable "PricedLooks$Reader" 4 ∈ tables_1 := tb_m1 _ (List.mem_of_getElem? (i := 128) (by first | exact rfl | decide +kernel))
theorem lw_p3 : lw_okq (⟨"PricedLooks$Reader", "wrong", "(I)Z"⟩, 4) := ⟨nq_c2, ni_c2, tb_m2 _ (List.mem_of_getElem? (i := 227) (by first | exact rfl | decide +kernel)), tb_m2 _ (List.mem_of_getElem? (i := 228) (by first | exact rfl | decide +kernel))⟩
theorem lw_p4 : lw_okq (⟨"PricedLooks$Reader", "readRows", "()Z"⟩, 4) := ⟨nq_c2, ni_c2, tb_m2 _ (List.mem_of_getElem? (i := 231) (by first | exact rfl | decide +kernel)), tb_m2 _ (List.mem_of_getElem? (i := 232) (by first | exact rfl | decide +kernel))⟩
theorem lw_p5 : lw_okq (⟨"PricedLooks$Reader", "readRow", "(I)Z"⟩, 4) := ⟨nq_c2, ni_c2, tb_m2 _ (List.mem_of_getElem? (i := 235) (by first | exact rfl | decide +kernel)), tb_m2 _ (List.mem_of_getElem? (i := 236) (by first | exact rfl | decide +kernel))⟩
theorem lw_p6 : lw_okq (⟨"PricedLooks$Reader", "isRowOfCells", "()Z"⟩, 4) := ⟨nq_c2, ni_c2, tb_m3 _ (List.mem_of_getElem? (i := 0) (by first | exact rfl | decide +kernel)), tb_m3 _ (List.mem_of_getElem? (i := 1) (by first | exact rfl | decide +kernel))⟩
theorem lw_p7 : lw_okq (⟨"PricedLooks$Reader", "passStop", "(Z)Z"⟩, 4) := ⟨nq_c2, ni_c2, tb_m3 _ (List.mem_of_getElem? (i := 8) (by first | exact rfl | decide +kernel)), tb_m3 _ (List.mem_of_getElem? (i := 9) (by first | exact rfl | decide +kernel))⟩
theorem lw_p8 : lw_okq (⟨"PricedLooks$Reader", "readPrices", "()Z"⟩, 4) := ⟨nq_c2, ni_c2, tb_m3 _ (List.mem_of_getElem? (i := 12) (by first | exact rfl | decide +kernel)), tb_m3 _ (List.mem_of_getElem? (i := 13) (by first | exact rfl | decide +kernel))⟩
theorem lw_p9 : lw_okq (⟨"PricedLooks$Reader", "readPrice", "()Z"⟩, 4) := ⟨nq_c2, ni_c2, tb_m3 _ (List.mem_of_getElem? (i := 17) (by first | exact rfl | decide +kernel)), tb_m3 _ (List.mem_of_getElem? (i := 18) (by first | exact rfl | decide +kernel))⟩
theorem lw_p10 : lw_okq (⟨"PricedLooks$Reader", "readNumber", "(I)I"⟩, 4) := ⟨nq_c2, ni_c2, tb_m3 _ (List.mem_of_getElem? (i := 21) (by first | exact rfl | decide +kernel)), tb_m3 _ (List.mem_of_getElem? (i := 22) (by first | exact rfl | decide +kernel))⟩
theorem lw_p11 : lw_okq (⟨"PricedLooks$Reader", "readPeople", "()Z"⟩, 4) := ⟨nq_c2, ni_c2, tb_m3 _ (List.mem_of_getElem? (i := 26) (by first | exact rfl | decide +kernel)), tb_m3 _ (List.mem_of_getElem? (i := 27) (by first | exact rfl | decide +kernel))⟩
theorem lw_p12 : lw_okq (⟨"PricedLooks$Reader", "readPerson", "(I)Z"⟩, 4) := ⟨nq_c2, ni_c2, tb_m3 _ (List.mem_of_getElem? (i := 31) (by first | exact rfl | decide +kernel)), tb_m3 _ (List.mem_of_getElem? (i := 32) (by first | exact rfl | decide +kernel))⟩
theorem lw_p13 : lw_okq (⟨"PricedLooks$Reader", "readOpenCell", "()I"⟩, 4) := ⟨nq_c2, ni_c2, tb_m3 _ (List.mem_of_getElem? (i := 35) (by first | exact rfl | decide +kernel)), tb_m3 _ (List.mem_of_getElem? (i := 36) (by first | exact rfl | decide +kernel))⟩
theorem nq_c3 : "PricedLooks$Views" ≠ "java/lang/invoke/MethodHandle" ∧ "PricedLooks$Views" ≠ "java/lang/invoke/VarHandle" := ⟨by decide +kernel, by decide +kernel⟩
theorem ni_c3 : Cond.instantiable "PricedLooks$Views" 4 ∈ tables_1 := tb_m1 _ (List.mem_of_getElem? (i := 150) (by first | exact rfl | decide +kernel))
theorem lw_p14 : lw_okq (⟨"PricedLooks$Views", "drawWay", "(LPricedLooks$City;I)V"⟩, 4) := ⟨nq_c3, ni_c3, tb_m3 _ (List.mem_of_getElem? (i := 59) (by first | exact rfl | decide +kernel)), tb_m3 _ (List.mem_of_getElem? (i := 60) (by first | exact rfl | decide +kernel))⟩
theorem lw_p15 : lw_okq (⟨"PricedLooks$Views", "reflect", "(LPricedLooks$City;II)V"⟩, 4) := ⟨nq_c3, ni_c3, tb_m3 _ (List.mem_of_getElem? (i := 74) (by first | exact rfl | decide +kernel)), tb_m3 _ (List.mem_of_getElem? (i := 75) (by first | exact rfl | decide +kernel))⟩
def lw_privs_1 : List (MethodName × Nat) := [(⟨"PricedLooks", "found", "(I)I"⟩, 13), (⟨"PricedLooks", "fine", "(I)I"⟩, 13), (⟨"PricedLooks$Tape", "readFigures", "()V"⟩, 6), (⟨"PricedLooks$Reader", "wrong", "(I)Z"⟩, 4), (⟨"PricedLooks$Reader", "readRows", "()Z"⟩, 4), (⟨"PricedLooks$Reader", "readRow", "(I)Z"⟩, 4), (⟨"PricedLooks$Reader", "isRowOfCells", "()Z"⟩, 4), (⟨"PricedLooks$Reader", "passStop", "(Z)Z"⟩, 4), (⟨"PricedLooks$Reader", "readPrices", "()Z"⟩, 4), (⟨"PricedLooks$Reader", "readPrice", "()Z"⟩, 4), (⟨"PricedLooks$Reader", "readNumber", "(I)I"⟩, 4), (⟨"PricedLooks$Reader", "readPeople", "()Z"⟩, 4), (⟨"PricedLooks$Reader", "readPerson", "(I)Z"⟩, 4), (⟨"PricedLooks$Reader", "readOpenCell", "()I"⟩, 4), (⟨"PricedLooks$Views", "drawWay", "(LPricedLooks$City;I)V"⟩, 4), (⟨"PricedLooks$Views", "reflect", "(LPricedLooks$City;II)V"⟩, 4)]
theorem lw_r1 : ∀ q ∈ lw_privs_1, lw_okq q := List.forall_mem_cons.mpr ⟨lw_p0, List.forall_mem_cons.mpr ⟨lw_p1, List.forall_mem_cons.mpr ⟨lw_p2, List.forall_mem_cons.mpr ⟨lw_p3, List.forall_mem_cons.mpr ⟨lw_p4, List.forall_mem_cons.mpr ⟨lw_p5, List.forall_mem_cons.mpr ⟨lw_p6, List.forall_mem_cons.mpr ⟨lw_p7, List.forall_mem_cons.mpr ⟨lw_p8, List.forall_mem_cons.mpr ⟨lw_p9, List.forall_mem_cons.mpr ⟨lw_p10, List.forall_mem_cons.mpr ⟨lw_p11, List.forall_mem_cons.mpr ⟨lw_p12, List.forall_mem_cons.mpr ⟨lw_p13, List.forall_mem_cons.mpr ⟨lw_p14, List.forall_mem_cons.mpr ⟨lw_p15, fun _ h => absurd h List.not_mem_nil⟩⟩⟩⟩⟩⟩⟩⟩⟩⟩⟩⟩⟩⟩⟩⟩
theorem lw_p16 : lw_okq (⟨"PricedLooks$Views", "settle", "(LPricedLooks$City;III)V"⟩, 4) := ⟨nq_c3, ni_c3, tb_m3 _ (List.mem_of_getElem? (i := 82) (by first | exact rfl | decide +kernel)), tb_m3 _ (List.mem_of_getElem? (i := 83) (by first | exact rfl | decide +kernel))⟩
theorem lw_p17 : lw_okq (⟨"PricedLooks", "noCity", "()Z"⟩, 13) := ⟨nq_c0, ni_c0, tb_m3 _ (List.mem_of_getElem? (i := 114) (by first | exact rfl | decide +kernel)), tb_m3 _ (List.mem_of_getElem? (i := 115) (by first | exact rfl | decide +kernel))⟩
theorem lw_p18 : lw_okq (⟨"PricedLooks", "isPerson", "(I)Z"⟩, 13) := ⟨nq_c0, ni_c0, tb_m3 _ (List.mem_of_getElem? (i := 130) (by first | exact rfl | decide +kernel)), tb_m3 _ (List.mem_of_getElem? (i := 131) (by first | exact rfl | decide +kernel))⟩
theorem lw_p19 : lw_okq (⟨"PricedLooks", "canStep", "(II)Z"⟩, 13) := ⟨nq_c0, ni_c0, tb_m3 _ (List.mem_of_getElem? (i := 134) (by first | exact rfl | decide +kernel)), tb_m3 _ (List.mem_of_getElem? (i := 135) (by first | exact rfl | decide +kernel))⟩
theorem lw_p20 : lw_okq (⟨"PricedLooks", "goOneStep", "(II)I"⟩, 13) := ⟨nq_c0, ni_c0, tb_m3 _ (List.mem_of_getElem? (i := 138) (by first | exact rfl | decide +kernel)), tb_m3 _ (List.mem_of_getElem? (i := 139) (by first | exact rfl | decide +kernel))⟩
theorem lw_p21 : lw_okq (⟨"PricedLooks", "lookAndPay", "(II)I"⟩, 13) := ⟨nq_c0, ni_c0, tb_m3 _ (List.mem_of_getElem? (i := 142) (by first | exact rfl | decide +kernel)), tb_m3 _ (List.mem_of_getElem? (i := 143) (by first | exact rfl | decide +kernel))⟩
theorem lw_p22 : lw_okq (⟨"PricedLooks", "mostBlind", "(I)I"⟩, 13) := ⟨nq_c0, ni_c0, tb_m3 _ (List.mem_of_getElem? (i := 182) (by first | exact rfl | decide +kernel)), tb_m3 _ (List.mem_of_getElem? (i := 183) (by first | exact rfl | decide +kernel))⟩
theorem nq_c4 : "PricedLooks$WayHome" ≠ "java/lang/invoke/MethodHandle" ∧ "PricedLooks$WayHome" ≠ "java/lang/invoke/VarHandle" := ⟨by decide +kernel, by decide +kernel⟩
theorem ni_c4 : Cond.instantiable "PricedLooks$WayHome" 11 ∈ tables_1 := tb_m1 _ (List.mem_of_getElem? (i := 176) (by first | exact rfl | decide +kernel))
theorem lw_p23 : lw_okq (⟨"PricedLooks$WayHome", "begin", "(II)V"⟩, 11) := ⟨nq_c4, ni_c4, tb_m3 _ (List.mem_of_getElem? (i := 194) (by first | exact rfl | decide +kernel)), tb_m3 _ (List.mem_of_getElem? (i := 195) (by first | exact rfl | decide +kernel))⟩
theorem lw_p24 : lw_okq (⟨"PricedLooks$WayHome", "offer", "(II)V"⟩, 11) := ⟨nq_c4, ni_c4, tb_m3 _ (List.mem_of_getElem? (i := 200) (by first | exact rfl | decide +kernel)), tb_m3 _ (List.mem_of_getElem? (i := 201) (by first | exact rfl | decide +kernel))⟩
theorem lw_p25 : lw_okq (⟨"PricedLooks$WayHome", "spread", "(I)V"⟩, 11) := ⟨nq_c4, ni_c4, tb_m3 _ (List.mem_of_getElem? (i := 205) (by first | exact rfl | decide +kernel)), tb_m3 _ (List.mem_of_getElem? (i := 206) (by first | exact rfl | decide +kernel))⟩
theorem lw_p26 : lw_okq (⟨"PricedLooks$WayHome", "weight", "(I)I"⟩, 11) := ⟨nq_c4, ni_c4, tb_m3 _ (List.mem_of_getElem? (i := 209) (by first | exact rfl | decide +kernel)), tb_m3 _ (List.mem_of_getElem? (i := 210) (by first | exact rfl | decide +kernel))⟩
theorem lw_p27 : lw_okq (⟨"PricedLooks$WayHome", "firstStep", "(I)I"⟩, 11) := ⟨nq_c4, ni_c4, tb_m3 _ (List.mem_of_getElem? (i := 227) (by first | exact rfl | decide +kernel)), tb_m3 _ (List.mem_of_getElem? (i := 228) (by first | exact rfl | decide +kernel))⟩
theorem lw_p28 : lw_okq (⟨"PricedLooks$WayHome", "after", "(II)I"⟩, 11) := ⟨nq_c4, ni_c4, tb_m3 _ (List.mem_of_getElem? (i := 231) (by first | exact rfl | decide +kernel)), tb_m3 _ (List.mem_of_getElem? (i := 232) (by first | exact rfl | decide +kernel))⟩
theorem lw_p29 : lw_okq (⟨"PricedLooks", "mostBeautiful", "()I"⟩, 13) := ⟨nq_c0, ni_c0, tb_m4 _ (List.mem_of_getElem? (i := 3) (by first | exact rfl | decide +kernel)), tb_m4 _ (List.mem_of_getElem? (i := 4) (by first | exact rfl | decide +kernel))⟩
theorem lw_p30 : lw_okq (⟨"PricedLooks", "seenFrom", "(I)I"⟩, 13) := ⟨nq_c0, ni_c0, tb_m4 _ (List.mem_of_getElem? (i := 7) (by first | exact rfl | decide +kernel)), tb_m4 _ (List.mem_of_getElem? (i := 8) (by first | exact rfl | decide +kernel))⟩
theorem nq_c5 : "PricedLooks$Market" ≠ "java/lang/invoke/MethodHandle" ∧ "PricedLooks$Market" ≠ "java/lang/invoke/VarHandle" := ⟨by decide +kernel, by decide +kernel⟩
theorem ni_c5 : Cond.instantiable "PricedLooks$Market" 5 ∈ tables_1 := tb_m1 _ (List.mem_of_getElem? (i := 216) (by first | exact rfl | decide +kernel))
theorem lw_p31 : lw_okq (⟨"PricedLooks$Market", "fillBetween", "(IIIII)V"⟩, 5) := ⟨nq_c5, ni_c5, tb_m4 _ (List.mem_of_getElem? (i := 36) (by first | exact rfl | decide +kernel)), tb_m4 _ (List.mem_of_getElem? (i := 37) (by first | exact rfl | decide +kernel))⟩
def lw_privs_2 : List (MethodName × Nat) := [(⟨"PricedLooks$Views", "settle", "(LPricedLooks$City;III)V"⟩, 4), (⟨"PricedLooks", "noCity", "()Z"⟩, 13), (⟨"PricedLooks", "isPerson", "(I)Z"⟩, 13), (⟨"PricedLooks", "canStep", "(II)Z"⟩, 13), (⟨"PricedLooks", "goOneStep", "(II)I"⟩, 13), (⟨"PricedLooks", "lookAndPay", "(II)I"⟩, 13), (⟨"PricedLooks", "mostBlind", "(I)I"⟩, 13), (⟨"PricedLooks$WayHome", "begin", "(II)V"⟩, 11), (⟨"PricedLooks$WayHome", "offer", "(II)V"⟩, 11), (⟨"PricedLooks$WayHome", "spread", "(I)V"⟩, 11), (⟨"PricedLooks$WayHome", "weight", "(I)I"⟩, 11), (⟨"PricedLooks$WayHome", "firstStep", "(I)I"⟩, 11), (⟨"PricedLooks$WayHome", "after", "(II)I"⟩, 11), (⟨"PricedLooks", "mostBeautiful", "()I"⟩, 13), (⟨"PricedLooks", "seenFrom", "(I)I"⟩, 13), (⟨"PricedLooks$Market", "fillBetween", "(IIIII)V"⟩, 5)]
theorem lw_r2 : ∀ q ∈ lw_privs_2, lw_okq q := List.forall_mem_cons.mpr ⟨lw_p16, List.forall_mem_cons.mpr ⟨lw_p17, List.forall_mem_cons.mpr ⟨lw_p18, List.forall_mem_cons.mpr ⟨lw_p19, List.forall_mem_cons.mpr ⟨lw_p20, List.forall_mem_cons.mpr ⟨lw_p21, List.forall_mem_cons.mpr ⟨lw_p22, List.forall_mem_cons.mpr ⟨lw_p23, List.forall_mem_cons.mpr ⟨lw_p24, List.forall_mem_cons.mpr ⟨lw_p25, List.forall_mem_cons.mpr ⟨lw_p26, List.forall_mem_cons.mpr ⟨lw_p27, List.forall_mem_cons.mpr ⟨lw_p28, List.forall_mem_cons.mpr ⟨lw_p29, List.forall_mem_cons.mpr ⟨lw_p30, List.forall_mem_cons.mpr ⟨lw_p31, fun _ h => absurd h List.not_mem_nil⟩⟩⟩⟩⟩⟩⟩⟩⟩⟩⟩⟩⟩⟩⟩⟩
theorem nq_c6 : "PricedLooks$Asks" ≠ "java/lang/invoke/MethodHandle" ∧ "PricedLooks$Asks" ≠ "java/lang/invoke/VarHandle" := ⟨by decide +kernel, by decide +kernel⟩
theorem ni_c6 : Cond.instantiable "PricedLooks$Asks" 3 ∈ tables_1 := tb_m1 _ (List.mem_of_getElem? (i := 239) (by first | exact rfl | decide +kernel))
theorem lw_p32 : lw_okq (⟨"PricedLooks$Asks", "firstBody", "(II)I"⟩, 3) := ⟨nq_c6, ni_c6, tb_m4 _ (List.mem_of_getElem? (i := 102) (by first | exact rfl | decide +kernel)), tb_m4 _ (List.mem_of_getElem? (i := 103) (by first | exact rfl | decide +kernel))⟩
theorem lw_p33 : lw_okq (⟨"PricedLooks$Asks", "begin", "(III)I"⟩, 3) := ⟨nq_c6, ni_c6, tb_m4 _ (List.mem_of_getElem? (i := 110) (by first | exact rfl | decide +kernel)), tb_m4 _ (List.mem_of_getElem? (i := 111) (by first | exact rfl | decide +kernel))⟩
theorem lw_p34 : lw_okq (⟨"PricedLooks", "sheetsThere", "()I"⟩, 13) := ⟨nq_c0, ni_c0, tb_m4 _ (List.mem_of_getElem? (i := 128) (by first | exact rfl | decide +kernel)), tb_m4 _ (List.mem_of_getElem? (i := 129) (by first | exact rfl | decide +kernel))⟩
theorem nq_c7 : "PricedLooksModel" ≠ "java/lang/invoke/MethodHandle" ∧ "PricedLooksModel" ≠ "java/lang/invoke/VarHandle" := ⟨by decide +kernel, by decide +kernel⟩
theorem ni_c7 : Cond.instantiable "PricedLooksModel" 29 ∈ tables_1 := tb_m4 _ (List.mem_of_getElem? (i := 145) (by first | exact rfl | decide +kernel))
theorem lw_p35 : lw_okq (⟨"PricedLooksModel", "finding", "(I)I"⟩, 29) := ⟨nq_c7, ni_c7, tb_m5 _ (List.mem_of_getElem? (i := 13) (by first | exact rfl | decide +kernel)), tb_m5 _ (List.mem_of_getElem? (i := 14) (by first | exact rfl | decide +kernel))⟩
theorem lw_p36 : lw_okq (⟨"PricedLooksModel", "begin", "()V"⟩, 29) := ⟨nq_c7, ni_c7, tb_m5 _ (List.mem_of_getElem? (i := 41) (by first | exact rfl | decide +kernel)), tb_m5 _ (List.mem_of_getElem? (i := 42) (by first | exact rfl | decide +kernel))⟩
theorem lw_p37 : lw_okq (⟨"PricedLooksModel", "next", "()V"⟩, 29) := ⟨nq_c7, ni_c7, tb_m5 _ (List.mem_of_getElem? (i := 45) (by first | exact rfl | decide +kernel)), tb_m5 _ (List.mem_of_getElem? (i := 46) (by first | exact rfl | decide +kernel))⟩
theorem lw_p38 : lw_okq (⟨"PricedLooksModel", "byteAt", "(I)I"⟩, 29) := ⟨nq_c7, ni_c7, tb_m5 _ (List.mem_of_getElem? (i := 49) (by first | exact rfl | decide +kernel)), tb_m5 _ (List.mem_of_getElem? (i := 50) (by first | exact rfl | decide +kernel))⟩
theorem lw_p39 : lw_okq (⟨"PricedLooksModel", "name", "()J"⟩, 29) := ⟨nq_c7, ni_c7, tb_m5 _ (List.mem_of_getElem? (i := 60) (by first | exact rfl | decide +kernel)), tb_m5 _ (List.mem_of_getElem? (i := 61) (by first | exact rfl | decide +kernel))⟩
theorem lw_p40 : lw_okq (⟨"PricedLooksModel", "bad", "(I)V"⟩, 29) := ⟨nq_c7, ni_c7, tb_m5 _ (List.mem_of_getElem? (i := 65) (by first | exact rfl | decide +kernel)), tb_m5 _ (List.mem_of_getElem? (i := 66) (by first | exact rfl | decide +kernel))⟩
theorem lw_p41 : lw_okq (⟨"PricedLooksModel", "readRow", "()V"⟩, 29) := ⟨nq_c7, ni_c7, tb_m5 _ (List.mem_of_getElem? (i := 69) (by first | exact rfl | decide +kernel)), tb_m5 _ (List.mem_of_getElem? (i := 70) (by first | exact rfl | decide +kernel))⟩
theorem lw_p42 : lw_okq (⟨"PricedLooksModel", "begins", "(II)V"⟩, 29) := ⟨nq_c7, ni_c7, tb_m5 _ (List.mem_of_getElem? (i := 73) (by first | exact rfl | decide +kernel)), tb_m5 _ (List.mem_of_getElem? (i := 74) (by first | exact rfl | decide +kernel))⟩
theorem lw_p43 : lw_okq (⟨"PricedLooksModel", "must", "(Z)V"⟩, 29) := ⟨nq_c7, ni_c7, tb_m5 _ (List.mem_of_getElem? (i := 77) (by first | exact rfl | decide +kernel)), tb_m5 _ (List.mem_of_getElem? (i := 78) (by first | exact rfl | decide +kernel))⟩
theorem lw_p44 : lw_okq (⟨"PricedLooksModel", "isCells", "()Z"⟩, 29) := ⟨nq_c7, ni_c7, tb_m5 _ (List.mem_of_getElem? (i := 81) (by first | exact rfl | decide +kernel)), tb_m5 _ (List.mem_of_getElem? (i := 82) (by first | exact rfl | decide +kernel))⟩
theorem lw_p45 : lw_okq (⟨"PricedLooksModel", "mustEnd", "()V"⟩, 29) := ⟨nq_c7, ni_c7, tb_m5 _ (List.mem_of_getElem? (i := 88) (by first | exact rfl | decide +kernel)), tb_m5 _ (List.mem_of_getElem? (i := 89) (by first | exact rfl | decide +kernel))⟩
theorem lw_p46 : lw_okq (⟨"PricedLooksModel", "readPrice", "()V"⟩, 29) := ⟨nq_c7, ni_c7, tb_m5 _ (List.mem_of_getElem? (i := 93) (by first | exact rfl | decide +kernel)), tb_m5 _ (List.mem_of_getElem? (i := 94) (by first | exact rfl | decide +kernel))⟩
theorem lw_p47 : lw_okq (⟨"PricedLooksModel", "number", "(II)I"⟩, 29) := ⟨nq_c7, ni_c7, tb_m5 _ (List.mem_of_getElem? (i := 97) (by first | exact rfl | decide +kernel)), tb_m5 _ (List.mem_of_getElem? (i := 98) (by first | exact rfl | decide +kernel))⟩
def lw_privs_3 : List (MethodName × Nat) := [(⟨"PricedLooks$Asks", "firstBody", "(II)I"⟩, 3), (⟨"PricedLooks$Asks", "begin", "(III)I"⟩, 3), (⟨"PricedLooks", "sheetsThere", "()I"⟩, 13), (⟨"PricedLooksModel", "finding", "(I)I"⟩, 29), (⟨"PricedLooksModel", "begin", "()V"⟩, 29), (⟨"PricedLooksModel", "next", "()V"⟩, 29), (⟨"PricedLooksModel", "byteAt", "(I)I"⟩, 29), (⟨"PricedLooksModel", "name", "()J"⟩, 29), (⟨"PricedLooksModel", "bad", "(I)V"⟩, 29), (⟨"PricedLooksModel", "readRow", "()V"⟩, 29), (⟨"PricedLooksModel", "begins", "(II)V"⟩, 29), (⟨"PricedLooksModel", "must", "(Z)V"⟩, 29), (⟨"PricedLooksModel", "isCells", "()Z"⟩, 29), (⟨"PricedLooksModel", "mustEnd", "()V"⟩, 29), (⟨"PricedLooksModel", "readPrice", "()V"⟩, 29), (⟨"PricedLooksModel", "number", "(II)I"⟩, 29)]
theorem lw_r3 : ∀ q ∈ lw_privs_3, lw_okq q := List.forall_mem_cons.mpr ⟨lw_p32, List.forall_mem_cons.mpr ⟨lw_p33, List.forall_mem_cons.mpr ⟨lw_p34, List.forall_mem_cons.mpr ⟨lw_p35, List.forall_mem_cons.mpr ⟨lw_p36, List.forall_mem_cons.mpr ⟨lw_p37, List.forall_mem_cons.mpr ⟨lw_p38, List.forall_mem_cons.mpr ⟨lw_p39, List.forall_mem_cons.mpr ⟨lw_p40, List.forall_mem_cons.mpr ⟨lw_p41, List.forall_mem_cons.mpr ⟨lw_p42, List.forall_mem_cons.mpr ⟨lw_p43, List.forall_mem_cons.mpr ⟨lw_p44, List.forall_mem_cons.mpr ⟨lw_p45, List.forall_mem_cons.mpr ⟨lw_p46, List.forall_mem_cons.mpr ⟨lw_p47, fun _ h => absurd h List.not_mem_nil⟩⟩⟩⟩⟩⟩⟩⟩⟩⟩⟩⟩⟩⟩⟩⟩
theorem lw_p48 : lw_okq (⟨"PricedLooksModel", "figures", "()I"⟩, 29) := ⟨nq_c7, ni_c7, tb_m5 _ (List.mem_of_getElem? (i := 101) (by first | exact rfl | decide +kernel)), tb_m5 _ (List.mem_of_getElem? (i := 102) (by first | exact rfl | decide +kernel))⟩
theorem lw_p49 : lw_okq (⟨"PricedLooksModel", "readPerson", "()V"⟩, 29) := ⟨nq_c7, ni_c7, tb_m5 _ (List.mem_of_getElem? (i := 107) (by first | exact rfl | decide +kernel)), tb_m5 _ (List.mem_of_getElem? (i := 108) (by first | exact rfl | decide +kernel))⟩
theorem lw_p50 : lw_okq (⟨"PricedLooksModel", "openCell", "()I"⟩, 29) := ⟨nq_c7, ni_c7, tb_m5 _ (List.mem_of_getElem? (i := 111) (by first | exact rfl | decide +kernel)), tb_m5 _ (List.mem_of_getElem? (i := 112) (by first | exact rfl | decide +kernel))⟩
theorem lw_p51 : lw_okq (⟨"PricedLooksModel", "isOpen", "(I)Z"⟩, 29) := ⟨nq_c7, ni_c7, tb_m5 _ (List.mem_of_getElem? (i := 126) (by first | exact rfl | decide +kernel)), tb_m5 _ (List.mem_of_getElem? (i := 127) (by first | exact rfl | decide +kernel))⟩
theorem lw_p52 : lw_okq (⟨"PricedLooksModel", "isCell", "(I)Z"⟩, 29) := ⟨nq_c7, ni_c7, tb_m5 _ (List.mem_of_getElem? (i := 130) (by first | exact rfl | decide +kernel)), tb_m5 _ (List.mem_of_getElem? (i := 131) (by first | exact rfl | decide +kernel))⟩
theorem lw_p53 : lw_okq (⟨"PricedLooksModel", "isIn", "(II)Z"⟩, 29) := ⟨nq_c7, ni_c7, tb_m5 _ (List.mem_of_getElem? (i := 135) (by first | exact rfl | decide +kernel)), tb_m5 _ (List.mem_of_getElem? (i := 136) (by first | exact rfl | decide +kernel))⟩
theorem lw_p54 : lw_okq (⟨"PricedLooksModel", "lookFrom", "(II)V"⟩, 29) := ⟨nq_c7, ni_c7, tb_m5 _ (List.mem_of_getElem? (i := 142) (by first | exact rfl | decide +kernel)), tb_m5 _ (List.mem_of_getElem? (i := 143) (by first | exact rfl | decide +kernel))⟩
theorem lw_p55 : lw_okq (⟨"PricedLooksModel", "firstShut", "(II)I"⟩, 29) := ⟨nq_c7, ni_c7, tb_m5 _ (List.mem_of_getElem? (i := 146) (by first | exact rfl | decide +kernel)), tb_m5 _ (List.mem_of_getElem? (i := 147) (by first | exact rfl | decide +kernel))⟩
theorem lw_p56 : lw_okq (⟨"PricedLooksModel", "nextTo", "(II)I"⟩, 29) := ⟨nq_c7, ni_c7, tb_m5 _ (List.mem_of_getElem? (i := 150) (by first | exact rfl | decide +kernel)), tb_m5 _ (List.mem_of_getElem? (i := 151) (by first | exact rfl | decide +kernel))⟩
theorem lw_p57 : lw_okq (⟨"PricedLooksModel", "priceSeen", "()I"⟩, 29) := ⟨nq_c7, ni_c7, tb_m5 _ (List.mem_of_getElem? (i := 160) (by first | exact rfl | decide +kernel)), tb_m5 _ (List.mem_of_getElem? (i := 161) (by first | exact rfl | decide +kernel))⟩
theorem lw_p58 : lw_okq (⟨"PricedLooksModel", "ownerSeen", "()I"⟩, 29) := ⟨nq_c7, ni_c7, tb_m5 _ (List.mem_of_getElem? (i := 164) (by first | exact rfl | decide +kernel)), tb_m5 _ (List.mem_of_getElem? (i := 165) (by first | exact rfl | decide +kernel))⟩
theorem lw_p59 : lw_okq (⟨"PricedLooksModel", "isOne", "(I)Z"⟩, 29) := ⟨nq_c7, ni_c7, tb_m5 _ (List.mem_of_getElem? (i := 182) (by first | exact rfl | decide +kernel)), tb_m5 _ (List.mem_of_getElem? (i := 183) (by first | exact rfl | decide +kernel))⟩
theorem lw_p60 : lw_okq (⟨"PricedLooksModel", "mayGo", "(II)Z"⟩, 29) := ⟨nq_c7, ni_c7, tb_m5 _ (List.mem_of_getElem? (i := 186) (by first | exact rfl | decide +kernel)), tb_m5 _ (List.mem_of_getElem? (i := 187) (by first | exact rfl | decide +kernel))⟩
theorem lw_p61 : lw_okq (⟨"PricedLooksModel", "of", "(II)I"⟩, 29) := ⟨nq_c7, ni_c7, tb_m5 _ (List.mem_of_getElem? (i := 190) (by first | exact rfl | decide +kernel)), tb_m5 _ (List.mem_of_getElem? (i := 191) (by first | exact rfl | decide +kernel))⟩
theorem lw_p62 : lw_okq (⟨"PricedLooksModel", "steps", "(II)I"⟩, 29) := ⟨nq_c7, ni_c7, tb_m5 _ (List.mem_of_getElem? (i := 195) (by first | exact rfl | decide +kernel)), tb_m5 _ (List.mem_of_getElem? (i := 196) (by first | exact rfl | decide +kernel))⟩
theorem lw_p63 : lw_okq (⟨"PricedLooksModel", "paysNow", "(I)I"⟩, 29) := ⟨nq_c7, ni_c7, tb_m5 _ (List.mem_of_getElem? (i := 199) (by first | exact rfl | decide +kernel)), tb_m5 _ (List.mem_of_getElem? (i := 200) (by first | exact rfl | decide +kernel))⟩
def lw_privs_4 : List (MethodName × Nat) := [(⟨"PricedLooksModel", "figures", "()I"⟩, 29), (⟨"PricedLooksModel", "readPerson", "()V"⟩, 29), (⟨"PricedLooksModel", "openCell", "()I"⟩, 29), (⟨"PricedLooksModel", "isOpen", "(I)Z"⟩, 29), (⟨"PricedLooksModel", "isCell", "(I)Z"⟩, 29), (⟨"PricedLooksModel", "isIn", "(II)Z"⟩, 29), (⟨"PricedLooksModel", "lookFrom", "(II)V"⟩, 29), (⟨"PricedLooksModel", "firstShut", "(II)I"⟩, 29), (⟨"PricedLooksModel", "nextTo", "(II)I"⟩, 29), (⟨"PricedLooksModel", "priceSeen", "()I"⟩, 29), (⟨"PricedLooksModel", "ownerSeen", "()I"⟩, 29), (⟨"PricedLooksModel", "isOne", "(I)Z"⟩, 29), (⟨"PricedLooksModel", "mayGo", "(II)Z"⟩, 29), (⟨"PricedLooksModel", "of", "(II)I"⟩, 29), (⟨"PricedLooksModel", "steps", "(II)I"⟩, 29), (⟨"PricedLooksModel", "paysNow", "(I)I"⟩, 29)]
theorem lw_r4 : ∀ q ∈ lw_privs_4, lw_okq q := List.forall_mem_cons.mpr ⟨lw_p48, List.forall_mem_cons.mpr ⟨lw_p49, List.forall_mem_cons.mpr ⟨lw_p50, List.forall_mem_cons.mpr ⟨lw_p51, List.forall_mem_cons.mpr ⟨lw_p52, List.forall_mem_cons.mpr ⟨lw_p53, List.forall_mem_cons.mpr ⟨lw_p54, List.forall_mem_cons.mpr ⟨lw_p55, List.forall_mem_cons.mpr ⟨lw_p56, List.forall_mem_cons.mpr ⟨lw_p57, List.forall_mem_cons.mpr ⟨lw_p58, List.forall_mem_cons.mpr ⟨lw_p59, List.forall_mem_cons.mpr ⟨lw_p60, List.forall_mem_cons.mpr ⟨lw_p61, List.forall_mem_cons.mpr ⟨lw_p62, List.forall_mem_cons.mpr ⟨lw_p63, fun _ h => absurd h List.not_mem_nil⟩⟩⟩⟩⟩⟩⟩⟩⟩⟩⟩⟩⟩⟩⟩⟩
theorem lw_p64 : lw_okq (⟨"PricedLooksModel", "layHome", "(II)V"⟩, 29) := ⟨nq_c7, ni_c7, tb_m5 _ (List.mem_of_getElem? (i := 228) (by first | exact rfl | decide +kernel)), tb_m5 _ (List.mem_of_getElem? (i := 229) (by first | exact rfl | decide +kernel))⟩
theorem lw_p65 : lw_okq (⟨"PricedLooksModel", "layFees", "(I)V"⟩, 29) := ⟨nq_c7, ni_c7, tb_m5 _ (List.mem_of_getElem? (i := 232) (by first | exact rfl | decide +kernel)), tb_m5 _ (List.mem_of_getElem? (i := 233) (by first | exact rfl | decide +kernel))⟩
theorem lw_p66 : lw_okq (⟨"PricedLooksModel", "relax", "(I)Z"⟩, 29) := ⟨nq_c7, ni_c7, tb_m5 _ (List.mem_of_getElem? (i := 237) (by first | exact rfl | decide +kernel)), tb_m5 _ (List.mem_of_getElem? (i := 238) (by first | exact rfl | decide +kernel))⟩
theorem lw_p67 : lw_okq (⟨"PricedLooksModel", "isLess", "(III)Z"⟩, 29) := ⟨nq_c7, ni_c7, tb_m6 _ (List.mem_of_getElem? (i := 1) (by first | exact rfl | decide +kernel)), tb_m6 _ (List.mem_of_getElem? (i := 2) (by first | exact rfl | decide +kernel))⟩
theorem lw_p68 : lw_okq (⟨"PricedLooksModel", "bestStep", "(II)I"⟩, 29) := ⟨nq_c7, ni_c7, tb_m6 _ (List.mem_of_getElem? (i := 5) (by first | exact rfl | decide +kernel)), tb_m6 _ (List.mem_of_getElem? (i := 6) (by first | exact rfl | decide +kernel))⟩
theorem lw_p69 : lw_okq (⟨"PricedLooksModel", "beautyOf", "(I)I"⟩, 29) := ⟨nq_c7, ni_c7, tb_m6 _ (List.mem_of_getElem? (i := 17) (by first | exact rfl | decide +kernel)), tb_m6 _ (List.mem_of_getElem? (i := 18) (by first | exact rfl | decide +kernel))⟩
theorem lw_p70 : lw_okq (⟨"PricedLooksModel", "earned", "(I)I"⟩, 29) := ⟨nq_c7, ni_c7, tb_m6 _ (List.mem_of_getElem? (i := 25) (by first | exact rfl | decide +kernel)), tb_m6 _ (List.mem_of_getElem? (i := 26) (by first | exact rfl | decide +kernel))⟩
theorem lw_p71 : lw_okq (⟨"PricedLooksModel", "earnsOf", "(II)I"⟩, 29) := ⟨nq_c7, ni_c7, tb_m6 _ (List.mem_of_getElem? (i := 29) (by first | exact rfl | decide +kernel)), tb_m6 _ (List.mem_of_getElem? (i := 30) (by first | exact rfl | decide +kernel))⟩
theorem lw_p72 : lw_okq (⟨"PricedLooksModel", "bestPrice", "(I)I"⟩, 29) := ⟨nq_c7, ni_c7, tb_m6 _ (List.mem_of_getElem? (i := 33) (by first | exact rfl | decide +kernel)), tb_m6 _ (List.mem_of_getElem? (i := 34) (by first | exact rfl | decide +kernel))⟩
theorem lw_p73 : lw_okq (⟨"PricedLooksModel", "roundOf", "()Z"⟩, 29) := ⟨nq_c7, ni_c7, tb_m6 _ (List.mem_of_getElem? (i := 42) (by first | exact rfl | decide +kernel)), tb_m6 _ (List.mem_of_getElem? (i := 43) (by first | exact rfl | decide +kernel))⟩
theorem lw_p74 : lw_okq (⟨"PricedLooksModel", "hasFront", "(I)Z"⟩, 29) := ⟨nq_c7, ni_c7, tb_m6 _ (List.mem_of_getElem? (i := 46) (by first | exact rfl | decide +kernel)), tb_m6 _ (List.mem_of_getElem? (i := 47) (by first | exact rfl | decide +kernel))⟩
theorem lw_p75 : lw_okq (⟨"PricedLooksModel", "kindOf", "(I)I"⟩, 29) := ⟨nq_c7, ni_c7, tb_m6 _ (List.mem_of_getElem? (i := 66) (by first | exact rfl | decide +kernel)), tb_m6 _ (List.mem_of_getElem? (i := 67) (by first | exact rfl | decide +kernel))⟩
theorem lw_p76 : lw_okq (⟨"PricedLooksModel", "sizeOf", "(II)I"⟩, 29) := ⟨nq_c7, ni_c7, tb_m6 _ (List.mem_of_getElem? (i := 81) (by first | exact rfl | decide +kernel)), tb_m6 _ (List.mem_of_getElem? (i := 82) (by first | exact rfl | decide +kernel))⟩
theorem lw_p77 : lw_okq (⟨"PricedLooksModel", "began", "(I)V"⟩, 29) := ⟨nq_c7, ni_c7, tb_m6 _ (List.mem_of_getElem? (i := 85) (by first | exact rfl | decide +kernel)), tb_m6 _ (List.mem_of_getElem? (i := 86) (by first | exact rfl | decide +kernel))⟩
theorem lw_p78 : lw_okq (⟨"PricedLooksModel", "plainSize", "(I)I"⟩, 29) := ⟨nq_c7, ni_c7, tb_m6 _ (List.mem_of_getElem? (i := 89) (by first | exact rfl | decide +kernel)), tb_m6 _ (List.mem_of_getElem? (i := 90) (by first | exact rfl | decide +kernel))⟩
theorem lw_p79 : lw_okq (⟨"PricedLooksModel", "markOf", "(II)I"⟩, 29) := ⟨nq_c7, ni_c7, tb_m6 _ (List.mem_of_getElem? (i := 93) (by first | exact rfl | decide +kernel)), tb_m6 _ (List.mem_of_getElem? (i := 94) (by first | exact rfl | decide +kernel))⟩
def lw_privs_5 : List (MethodName × Nat) := [(⟨"PricedLooksModel", "layHome", "(II)V"⟩, 29), (⟨"PricedLooksModel", "layFees", "(I)V"⟩, 29), (⟨"PricedLooksModel", "relax", "(I)Z"⟩, 29), (⟨"PricedLooksModel", "isLess", "(III)Z"⟩, 29), (⟨"PricedLooksModel", "bestStep", "(II)I"⟩, 29), (⟨"PricedLooksModel", "beautyOf", "(I)I"⟩, 29), (⟨"PricedLooksModel", "earned", "(I)I"⟩, 29), (⟨"PricedLooksModel", "earnsOf", "(II)I"⟩, 29), (⟨"PricedLooksModel", "bestPrice", "(I)I"⟩, 29), (⟨"PricedLooksModel", "roundOf", "()Z"⟩, 29), (⟨"PricedLooksModel", "hasFront", "(I)Z"⟩, 29), (⟨"PricedLooksModel", "kindOf", "(I)I"⟩, 29), (⟨"PricedLooksModel", "sizeOf", "(II)I"⟩, 29), (⟨"PricedLooksModel", "began", "(I)V"⟩, 29), (⟨"PricedLooksModel", "plainSize", "(I)I"⟩, 29), (⟨"PricedLooksModel", "markOf", "(II)I"⟩, 29)]
theorem lw_r5 : ∀ q ∈ lw_privs_5, lw_okq q := List.forall_mem_cons.mpr ⟨lw_p64, List.forall_mem_cons.mpr ⟨lw_p65, List.forall_mem_cons.mpr ⟨lw_p66, List.forall_mem_cons.mpr ⟨lw_p67, List.forall_mem_cons.mpr ⟨lw_p68, List.forall_mem_cons.mpr ⟨lw_p69, List.forall_mem_cons.mpr ⟨lw_p70, List.forall_mem_cons.mpr ⟨lw_p71, List.forall_mem_cons.mpr ⟨lw_p72, List.forall_mem_cons.mpr ⟨lw_p73, List.forall_mem_cons.mpr ⟨lw_p74, List.forall_mem_cons.mpr ⟨lw_p75, List.forall_mem_cons.mpr ⟨lw_p76, List.forall_mem_cons.mpr ⟨lw_p77, List.forall_mem_cons.mpr ⟨lw_p78, List.forall_mem_cons.mpr ⟨lw_p79, fun _ h => absurd h List.not_mem_nil⟩⟩⟩⟩⟩⟩⟩⟩⟩⟩⟩⟩⟩⟩⟩⟩
theorem lw_p80 : lw_okq (⟨"PricedLooksModel", "wallSize", "(I)I"⟩, 29) := ⟨nq_c7, ni_c7, tb_m6 _ (List.mem_of_getElem? (i := 97) (by first | exact rfl | decide +kernel)), tb_m6 _ (List.mem_of_getElem? (i := 98) (by first | exact rfl | decide +kernel))⟩
theorem lw_p81 : lw_okq (⟨"PricedLooksModel", "howMany", "(Z)I"⟩, 29) := ⟨nq_c7, ni_c7, tb_m6 _ (List.mem_of_getElem? (i := 109) (by first | exact rfl | decide +kernel)), tb_m6 _ (List.mem_of_getElem? (i := 110) (by first | exact rfl | decide +kernel))⟩
def lw_privs_6 : List (MethodName × Nat) := [(⟨"PricedLooksModel", "wallSize", "(I)I"⟩, 29), (⟨"PricedLooksModel", "howMany", "(Z)I"⟩, 29)]
theorem lw_r6 : ∀ q ∈ lw_privs_6, lw_okq q := List.forall_mem_cons.mpr ⟨lw_p80, List.forall_mem_cons.mpr ⟨lw_p81, fun _ h => absurd h List.not_mem_nil⟩⟩
def lw_privs : List (MethodName × Nat) := lw_privs_1 ++ (lw_privs_2 ++ (lw_privs_3 ++ (lw_privs_4 ++ (lw_privs_5 ++ (lw_privs_6)))))
def lw_tbl : List Cond := k2_sels lw_privs ++ tables_1
theorem lw_privs_ok : ∀ q ∈ lw_privs, lw_okq q := by
  show ∀ q ∈ lw_privs_1 ++ (lw_privs_2 ++ (lw_privs_3 ++ (lw_privs_4 ++ (lw_privs_5 ++ (lw_privs_6))))), lw_okq q
  exact List.forall_mem_append.mpr ⟨lw_r1, List.forall_mem_append.mpr ⟨lw_r2, List.forall_mem_append.mpr ⟨lw_r3, List.forall_mem_append.mpr ⟨lw_r4, List.forall_mem_append.mpr ⟨lw_r5, lw_r6⟩⟩⟩⟩⟩
theorem goodIn_r {big : List Cond} (ws : List Cond) (ps : List Nat) (hp : ws = ps.filterMap (fun i => big[i]?)) (h : ws.all goodWord = true) : GoodIn big ws := by
  intro w hw
  have h1 := List.all_eq_true.mp h w hw
  rw [hp] at hw
  obtain ⟨i, -, hi⟩ := List.mem_filterMap.mp hw
  have hm : w ∈ big := by first | exact List.mem_of_getElem? hi | exact List.getElem?_mem hi
  exact ⟨hm, good_of_word h1⟩
theorem goodIn_app {big a b : List Cond} (ha : GoodIn big a) (hb : GoodIn big b) : GoodIn big (a ++ b) := fun w h => (List.mem_append.mp h).elim (ha w) (hb w)
theorem goodIn_ca {big a b : List Cond} {c : Cond} (ha : GoodIn big (c :: a)) (hb : GoodIn big b) : GoodIn big (c :: (a ++ b)) := fun w h => (List.mem_cons.mp h).elim (fun e => ha w (List.mem_cons.mpr (Or.inl e))) (fun h => (List.mem_append.mp h).elim (fun h => ha w (List.mem_cons.mpr (Or.inr h))) (hb w))
theorem goodIn_sub {big ws : List Cond} (hm : ∀ w ∈ ws, w ∈ big) (h : ws.all goodWord = true) : GoodIn big ws := fun w hw => ⟨hm w hw, good_of_word (List.all_eq_true.mp h w hw)⟩
def RX0 : String := "PricedLooks$Asks"
def TX0 : u_T := fun k => match k with
  | 0 => ("PricedLooks$Asks", "city", "LPricedLooks$City;", true)
  | 1 => ("PricedLooks$Asks", "bodies", "[I", true)
  | _ => ("PricedLooks$Asks", "traced", "I", false)
def tyX0 : Nat → FieldType := fun k => match k with
  | 0 => .object "PricedLooks$City"
  | 1 => .array .int
  | _ => .int
abbrev wsX00 : List Cond := u_ws RX0 TX0 3
theorem nmX0 : ∀ a, a < 3 → ∀ b, b < 3 → a ≠ b → (TX0 a).2.1 ≠ (TX0 b).2.1 := by decide +kernel
theorem tyX0_ok : ∀ k, k < 3 → parseFieldDescriptor (TX0 k).2.2.1 = some (tyX0 k) := by decide +kernel
abbrev cX0_init : ByteArray := prog_2_method_1_code
def yX0_init : MethodName := ⟨RX0, "<init>", "(LPricedLooks$City;)V"⟩
abbrev cX0_kindOf : ByteArray := prog_2_method_2_code
def yX0_kindOf : MethodName := ⟨RX0, "kindOf", "(I)I"⟩
abbrev cX0_isA : ByteArray := prog_2_method_3_code
def yX0_isA : MethodName := ⟨RX0, "isA", "(II)Z"⟩
abbrev cX0_answer : ByteArray := prog_2_method_4_code
def yX0_answer : MethodName := ⟨RX0, "answer", "(II)I"⟩
abbrev cX0_firstBody : ByteArray := prog_2_method_5_code
def yX0_firstBody : MethodName := ⟨RX0, "firstBody", "(II)I"⟩
abbrev cX0_begin : ByteArray := prog_2_method_6_code
def yX0_begin : MethodName := ⟨RX0, "begin", "(III)I"⟩
def RX1 : String := "PricedLooks$City"
def TX1 : u_T := fun k => match k with
  | 0 => ("PricedLooks$City", "wide", "I", false)
  | 1 => ("PricedLooks$City", "high", "I", false)
  | 2 => ("PricedLooks$City", "people", "I", false)
  | 3 => ("PricedLooks$City", "cells", "[I", true)
  | 4 => ("PricedLooks$City", "prices", "[I", true)
  | 5 => ("PricedLooks$City", "free", "[I", true)
  | 6 => ("PricedLooks$City", "places", "[I", true)
  | 7 => ("PricedLooks$City", "homes", "[I", true)
  | 8 => ("PricedLooks$City", "manners", "[I", true)
  | 9 => ("PricedLooks$City", "gone", "[I", true)
  | 10 => ("PricedLooks$City", "paid", "[I", true)
  | _ => ("PricedLooks$City", "blinks", "[I", true)
def tyX1 : Nat → FieldType := fun k => match k with
  | 0 => .int
  | 1 => .int
  | 2 => .int
  | 3 => .array .int
  | 4 => .array .int
  | 5 => .array .int
  | 6 => .array .int
  | 7 => .array .int
  | 8 => .array .int
  | 9 => .array .int
  | 10 => .array .int
  | _ => .array .int
abbrev wsX10 : List Cond := u_ws RX1 TX1 12
theorem nmX1 : ∀ a, a < 12 → ∀ b, b < 12 → a ≠ b → (TX1 a).2.1 ≠ (TX1 b).2.1 := by decide +kernel
theorem tyX1_ok : ∀ k, k < 12 → parseFieldDescriptor (TX1 k).2.2.1 = some (tyX1 k) := by decide +kernel
abbrev cX1_init : ByteArray := prog_3_method_1_code
def yX1_init : MethodName := ⟨RX1, "<init>", "()V"⟩
abbrev cX1_isNone : ByteArray := prog_3_method_2_code
def yX1_isNone : MethodName := ⟨RX1, "isNone", "()Z"⟩
abbrev cX1_clear : ByteArray := prog_3_method_3_code
def yX1_clear : MethodName := ⟨RX1, "clear", "()V"⟩
abbrev cX1_become : ByteArray := prog_3_method_4_code
def yX1_become : MethodName := ⟨RX1, "become", "(LPricedLooks$City;)V"⟩
abbrev cX1_isCell : ByteArray := prog_3_method_5_code
def yX1_isCell : MethodName := ⟨RX1, "isCell", "(I)Z"⟩
abbrev cX1_isOpen : ByteArray := prog_3_method_6_code
def yX1_isOpen : MethodName := ⟨RX1, "isOpen", "(I)Z"⟩
abbrev cX1_isMirror : ByteArray := prog_3_method_7_code
def yX1_isMirror : MethodName := ⟨RX1, "isMirror", "(I)Z"⟩
abbrev cX1_ownerOf : ByteArray := prog_3_method_8_code
def yX1_ownerOf : MethodName := ⟨RX1, "ownerOf", "(I)I"⟩
abbrev cX1_priceAt : ByteArray := prog_3_method_9_code
def yX1_priceAt : MethodName := ⟨RX1, "priceAt", "(I)I"⟩
abbrev cX1_beside : ByteArray := prog_3_method_10_code
def yX1_beside : MethodName := ⟨RX1, "beside", "(II)I"⟩
abbrev cX1_openBeside : ByteArray := prog_3_method_11_code
def yX1_openBeside : MethodName := ⟨RX1, "openBeside", "(I)I"⟩
abbrev cX1_fronts : ByteArray := prog_3_method_12_code
def yX1_fronts : MethodName := ⟨RX1, "fronts", "()I"⟩
abbrev cX1_mirrors : ByteArray := prog_3_method_13_code
def yX1_mirrors : MethodName := ⟨RX1, "mirrors", "()I"⟩
abbrev cX1_hasFront : ByteArray := prog_3_method_14_code
def yX1_hasFront : MethodName := ⟨RX1, "hasFront", "(I)Z"⟩
abbrev cX1_isTaken : ByteArray := prog_3_method_15_code
def yX1_isTaken : MethodName := ⟨RX1, "isTaken", "(I)Z"⟩
abbrev cX1_pays : ByteArray := prog_3_method_16_code
def yX1_pays : MethodName := ⟨RX1, "pays", "(II)Z"⟩
abbrev cX1_paidBy : ByteArray := prog_3_method_17_code
def yX1_paidBy : MethodName := ⟨RX1, "paidBy", "(I)I"⟩
abbrev cX1_paidTo : ByteArray := prog_3_method_18_code
def yX1_paidTo : MethodName := ⟨RX1, "paidTo", "(I)I"⟩
abbrev cX1_unseeing : ByteArray := prog_3_method_19_code
def yX1_unseeing : MethodName := ⟨RX1, "unseeing", "(I)I"⟩
def RX2 : String := "PricedLooks$Market"
def TX2 : u_T := fun k => match k with
  | 0 => ("PricedLooks$Market", "city", "LPricedLooks$City;", true)
  | 1 => ("PricedLooks$Market", "wayHome", "LPricedLooks$WayHome;", true)
  | 2 => ("PricedLooks$Market", "trial", "[I", true)
  | 3 => ("PricedLooks$Market", "times", "[I", true)
  | _ => ("PricedLooks$Market", "total", "[I", true)
def tyX2 : Nat → FieldType := fun k => match k with
  | 0 => .object "PricedLooks$City"
  | 1 => .object "PricedLooks$WayHome"
  | 2 => .array .int
  | 3 => .array .int
  | _ => .array .int
abbrev wsX20 : List Cond := u_ws RX2 TX2 5
theorem nmX2 : ∀ a, a < 5 → ∀ b, b < 5 → a ≠ b → (TX2 a).2.1 ≠ (TX2 b).2.1 := by decide +kernel
theorem tyX2_ok : ∀ k, k < 5 → parseFieldDescriptor (TX2 k).2.2.1 = some (tyX2 k) := by decide +kernel
abbrev cX2_init : ByteArray := prog_4_method_1_code
def yX2_init : MethodName := ⟨RX2, "<init>", "(LPricedLooks$City;LPricedLooks$WayHome;)V"⟩
abbrev cX2_open : ByteArray := prog_4_method_2_code
def yX2_open : MethodName := ⟨RX2, "open", "(LPricedLooks$Views;)V"⟩
abbrev cX2_earnings : ByteArray := prog_4_method_3_code
def yX2_earnings : MethodName := ⟨RX2, "earnings", "(I)I"⟩
abbrev cX2_bestPrice : ByteArray := prog_4_method_4_code
def yX2_bestPrice : MethodName := ⟨RX2, "bestPrice", "(I)I"⟩
abbrev cX2_compete : ByteArray := prog_4_method_5_code
def yX2_compete : MethodName := ⟨RX2, "compete", "()I"⟩
abbrev cX2_fillBetween : ByteArray := prog_4_method_6_code
def yX2_fillBetween : MethodName := ⟨RX2, "fillBetween", "(IIIII)V"⟩
def RX3 : String := "PricedLooks$Reader"
def TX3 : u_T := fun k => match k with
  | 0 => ("PricedLooks$Reader", "tape", "LPricedLooks$Tape;", true)
  | 1 => ("PricedLooks$Reader", "city", "LPricedLooks$City;", true)
  | 2 => ("PricedLooks$Reader", "faultNumber", "I", false)
  | _ => ("PricedLooks$Reader", "faultPlace", "I", false)
def tyX3 : Nat → FieldType := fun k => match k with
  | 0 => .object "PricedLooks$Tape"
  | 1 => .object "PricedLooks$City"
  | 2 => .int
  | _ => .int
abbrev wsX30 : List Cond := u_ws RX3 TX3 4
theorem nmX3 : ∀ a, a < 4 → ∀ b, b < 4 → a ≠ b → (TX3 a).2.1 ≠ (TX3 b).2.1 := by decide +kernel
theorem tyX3_ok : ∀ k, k < 4 → parseFieldDescriptor (TX3 k).2.2.1 = some (tyX3 k) := by decide +kernel
abbrev cX3_init : ByteArray := prog_5_method_1_code
def yX3_init : MethodName := ⟨RX3, "<init>", "(LPricedLooks$Tape;LPricedLooks$City;)V"⟩
abbrev cX3_read : ByteArray := prog_5_method_2_code
def yX3_read : MethodName := ⟨RX3, "read", "()Z"⟩
abbrev cX3_wrong : ByteArray := prog_5_method_3_code
def yX3_wrong : MethodName := ⟨RX3, "wrong", "(I)Z"⟩
abbrev cX3_readRows : ByteArray := prog_5_method_4_code
def yX3_readRows : MethodName := ⟨RX3, "readRows", "()Z"⟩
abbrev cX3_readRow : ByteArray := prog_5_method_5_code
def yX3_readRow : MethodName := ⟨RX3, "readRow", "(I)Z"⟩
abbrev cX3_isRowOfCells : ByteArray := prog_5_method_6_code
def yX3_isRowOfCells : MethodName := ⟨RX3, "isRowOfCells", "()Z"⟩
abbrev cX3_cellOf : ByteArray := prog_5_method_7_code
def yX3_cellOf : MethodName := ⟨RX3, "cellOf", "(I)I"⟩
abbrev cX3_passStop : ByteArray := prog_5_method_8_code
def yX3_passStop : MethodName := ⟨RX3, "passStop", "(Z)Z"⟩
abbrev cX3_readPrices : ByteArray := prog_5_method_9_code
def yX3_readPrices : MethodName := ⟨RX3, "readPrices", "()Z"⟩
abbrev cX3_readPrice : ByteArray := prog_5_method_10_code
def yX3_readPrice : MethodName := ⟨RX3, "readPrice", "()Z"⟩
abbrev cX3_readNumber : ByteArray := prog_5_method_11_code
def yX3_readNumber : MethodName := ⟨RX3, "readNumber", "(I)I"⟩
abbrev cX3_readPeople : ByteArray := prog_5_method_12_code
def yX3_readPeople : MethodName := ⟨RX3, "readPeople", "()Z"⟩
abbrev cX3_readPerson : ByteArray := prog_5_method_13_code
def yX3_readPerson : MethodName := ⟨RX3, "readPerson", "(I)Z"⟩
abbrev cX3_readOpenCell : ByteArray := prog_5_method_14_code
def yX3_readOpenCell : MethodName := ⟨RX3, "readOpenCell", "()I"⟩
def RX4 : String := "PricedLooks$Sheet"
def TX4 : u_T := fun k => match k with
  | 0 => ("PricedLooks$Sheet", "lane", "I", false)
  | 1 => ("PricedLooks$Sheet", "size", "I", false)
  | _ => ("PricedLooks$Sheet", "items", "[I", true)
def tyX4 : Nat → FieldType := fun k => match k with
  | 0 => .int
  | 1 => .int
  | _ => .array .int
abbrev wsX40 : List Cond := u_ws RX4 TX4 3
theorem nmX4 : ∀ a, a < 3 → ∀ b, b < 3 → a ≠ b → (TX4 a).2.1 ≠ (TX4 b).2.1 := by decide +kernel
theorem tyX4_ok : ∀ k, k < 3 → parseFieldDescriptor (TX4 k).2.2.1 = some (tyX4 k) := by decide +kernel
abbrev cX4_init : ByteArray := prog_6_method_1_code
def yX4_init : MethodName := ⟨RX4, "<init>", "()V"⟩
abbrev cX4_isMissing : ByteArray := prog_6_method_2_code
def yX4_isMissing : MethodName := ⟨RX4, "isMissing", "()Z"⟩
abbrev cX4_begin : ByteArray := prog_6_method_3_code
def yX4_begin : MethodName := ⟨RX4, "begin", "(II)V"⟩
abbrev cX4_put : ByteArray := prog_6_method_4_code
def yX4_put : MethodName := ⟨RX4, "put", "(II)I"⟩
abbrev cX4_hasRow : ByteArray := prog_6_method_5_code
def yX4_hasRow : MethodName := ⟨RX4, "hasRow", "(II)Z"⟩
def RX5 : String := "PricedLooks$Tape"
def TX5 : u_T := fun k => match k with
  | 0 => ("PricedLooks$Tape", "bytes", "[I", true)
  | 1 => ("PricedLooks$Tape", "size", "I", false)
  | 2 => ("PricedLooks$Tape", "sort", "I", false)
  | 3 => ("PricedLooks$Tape", "start", "I", false)
  | 4 => ("PricedLooks$Tape", "behind", "I", false)
  | _ => ("PricedLooks$Tape", "value", "I", false)
def tyX5 : Nat → FieldType := fun k => match k with
  | 0 => .array .int
  | 1 => .int
  | 2 => .int
  | 3 => .int
  | 4 => .int
  | _ => .int
abbrev wsX50 : List Cond := u_ws RX5 TX5 6
theorem nmX5 : ∀ a, a < 6 → ∀ b, b < 6 → a ≠ b → (TX5 a).2.1 ≠ (TX5 b).2.1 := by decide +kernel
theorem tyX5_ok : ∀ k, k < 6 → parseFieldDescriptor (TX5 k).2.2.1 = some (tyX5 k) := by decide +kernel
abbrev cX5_init : ByteArray := prog_7_method_1_code
def yX5_init : MethodName := ⟨RX5, "<init>", "()V"⟩
abbrev cX5_hasRoom : ByteArray := prog_7_method_2_code
def yX5_hasRoom : MethodName := ⟨RX5, "hasRoom", "(I)Z"⟩
abbrev cX5_append : ByteArray := prog_7_method_3_code
def yX5_append : MethodName := ⟨RX5, "append", "(JI)V"⟩
abbrev cX5_rewind : ByteArray := prog_7_method_4_code
def yX5_rewind : MethodName := ⟨RX5, "rewind", "()V"⟩
abbrev cX5_advance : ByteArray := prog_7_method_5_code
def yX5_advance : MethodName := ⟨RX5, "advance", "()V"⟩
abbrev cX5_length : ByteArray := prog_7_method_6_code
def yX5_length : MethodName := ⟨RX5, "length", "()I"⟩
abbrev cX5_isWord : ByteArray := prog_7_method_7_code
def yX5_isWord : MethodName := ⟨RX5, "isWord", "(Ljava/lang/String;)Z"⟩
abbrev cX5_readFigures : ByteArray := prog_7_method_8_code
def yX5_readFigures : MethodName := ⟨RX5, "readFigures", "()V"⟩
abbrev cX5_sortOf : ByteArray := prog_7_method_9_code
def yX5_sortOf : MethodName := ⟨RX5, "sortOf", "(I)I"⟩
def RX6 : String := "PricedLooks$Views"
def TX6 : u_T := fun k => match k with
  | 0 => ("PricedLooks$Views", "next", "[I", true)
  | 1 => ("PricedLooks$Views", "seen", "[I", true)
  | 2 => ("PricedLooks$Views", "mirrors", "[I", true)
  | _ => ("PricedLooks$Views", "front", "[I", true)
def tyX6 : Nat → FieldType := fun k => match k with
  | 0 => .array .int
  | 1 => .array .int
  | 2 => .array .int
  | _ => .array .int
abbrev wsX60 : List Cond := u_ws RX6 TX6 4
theorem nmX6 : ∀ a, a < 4 → ∀ b, b < 4 → a ≠ b → (TX6 a).2.1 ≠ (TX6 b).2.1 := by decide +kernel
theorem tyX6_ok : ∀ k, k < 4 → parseFieldDescriptor (TX6 k).2.2.1 = some (tyX6 k) := by decide +kernel
abbrev cX6_init : ByteArray := prog_8_method_1_code
def yX6_init : MethodName := ⟨RX6, "<init>", "()V"⟩
abbrev cX6_draw : ByteArray := prog_8_method_2_code
def yX6_draw : MethodName := ⟨RX6, "draw", "(LPricedLooks$City;)V"⟩
abbrev cX6_times : ByteArray := prog_8_method_3_code
def yX6_times : MethodName := ⟨RX6, "times", "(I)I"⟩
abbrev cX6_drawWay : ByteArray := prog_8_method_4_code
def yX6_drawWay : MethodName := ⟨RX6, "drawWay", "(LPricedLooks$City;I)V"⟩
abbrev cX6_reflect : ByteArray := prog_8_method_5_code
def yX6_reflect : MethodName := ⟨RX6, "reflect", "(LPricedLooks$City;II)V"⟩
abbrev cX6_settle : ByteArray := prog_8_method_6_code
def yX6_settle : MethodName := ⟨RX6, "settle", "(LPricedLooks$City;III)V"⟩
def RX7 : String := "PricedLooks$WayHome"
def TX7 : u_T := fun k => match k with
  | 0 => ("PricedLooks$WayHome", "city", "LPricedLooks$City;", true)
  | 1 => ("PricedLooks$WayHome", "views", "LPricedLooks$Views;", false)
  | 2 => ("PricedLooks$WayHome", "prices", "[I", false)
  | 3 => ("PricedLooks$WayHome", "due", "[I", true)
  | 4 => ("PricedLooks$WayHome", "left", "[I", true)
  | 5 => ("PricedLooks$WayHome", "queue", "[I", true)
  | 6 => ("PricedLooks$WayHome", "queued", "[I", true)
  | 7 => ("PricedLooks$WayHome", "waiting", "I", false)
  | 8 => ("PricedLooks$WayHome", "tail", "I", false)
  | 9 => ("PricedLooks$WayHome", "blind", "I", false)
  | _ => ("PricedLooks$WayHome", "start", "I", false)
def tyX7 : Nat → FieldType := fun k => match k with
  | 0 => .object "PricedLooks$City"
  | 1 => .object "PricedLooks$Views"
  | 2 => .array .int
  | 3 => .array .int
  | 4 => .array .int
  | 5 => .array .int
  | 6 => .array .int
  | 7 => .int
  | 8 => .int
  | 9 => .int
  | _ => .int
abbrev wsX70 : List Cond := u_ws RX7 TX7 11
theorem nmX7 : ∀ a, a < 11 → ∀ b, b < 11 → a ≠ b → (TX7 a).2.1 ≠ (TX7 b).2.1 := by decide +kernel
theorem tyX7_ok : ∀ k, k < 11 → parseFieldDescriptor (TX7 k).2.2.1 = some (tyX7 k) := by decide +kernel
abbrev cX7_init : ByteArray := prog_9_method_1_code
def yX7_init : MethodName := ⟨RX7, "<init>", "(LPricedLooks$City;LPricedLooks$Views;)V"⟩
abbrev cX7_regard : ByteArray := prog_9_method_2_code
def yX7_regard : MethodName := ⟨RX7, "regard", "(LPricedLooks$Views;[I)V"⟩
abbrev cX7_search : ByteArray := prog_9_method_3_code
def yX7_search : MethodName := ⟨RX7, "search", "(II)Z"⟩
abbrev cX7_cost : ByteArray := prog_9_method_4_code
def yX7_cost : MethodName := ⟨RX7, "cost", "()I"⟩
abbrev cX7_length : ByteArray := prog_9_method_5_code
def yX7_length : MethodName := ⟨RX7, "length", "()I"⟩
abbrev cX7_stepAt : ByteArray := prog_9_method_6_code
def yX7_stepAt : MethodName := ⟨RX7, "stepAt", "(I)I"⟩
abbrev cX7_timesPaid : ByteArray := prog_9_method_7_code
def yX7_timesPaid : MethodName := ⟨RX7, "timesPaid", "(II)I"⟩
abbrev cX7_begin : ByteArray := prog_9_method_8_code
def yX7_begin : MethodName := ⟨RX7, "begin", "(II)V"⟩
abbrev cX7_weight : ByteArray := prog_9_method_9_code
def yX7_weight : MethodName := ⟨RX7, "weight", "(I)I"⟩
abbrev cX7_spread : ByteArray := prog_9_method_10_code
def yX7_spread : MethodName := ⟨RX7, "spread", "(I)V"⟩
abbrev cX7_offer : ByteArray := prog_9_method_11_code
def yX7_offer : MethodName := ⟨RX7, "offer", "(II)V"⟩
abbrev cX7_after : ByteArray := prog_9_method_12_code
def yX7_after : MethodName := ⟨RX7, "after", "(II)I"⟩
abbrev cX7_firstStep : ByteArray := prog_9_method_13_code
def yX7_firstStep : MethodName := ⟨RX7, "firstStep", "(I)I"⟩
def RX8 : String := "PricedLooks"
def TX8 : u_T := fun k => match k with
  | 0 => ("PricedLooks", "sheets", "[LPricedLooks$Sheet;", true)
  | 1 => ("PricedLooks", "tape", "LPricedLooks$Tape;", true)
  | 2 => ("PricedLooks", "city", "LPricedLooks$City;", true)
  | 3 => ("PricedLooks", "draft", "LPricedLooks$City;", true)
  | 4 => ("PricedLooks", "reader", "LPricedLooks$Reader;", true)
  | 5 => ("PricedLooks", "images", "[LPricedLooks$City;", true)
  | 6 => ("PricedLooks", "views", "LPricedLooks$Views;", true)
  | 7 => ("PricedLooks", "walled", "LPricedLooks$Views;", true)
  | 8 => ("PricedLooks", "wayHome", "LPricedLooks$WayHome;", true)
  | 9 => ("PricedLooks", "market", "LPricedLooks$Market;", true)
  | 10 => ("PricedLooks", "asks", "LPricedLooks$Asks;", true)
  | 11 => ("PricedLooks", "latestFault", "I", false)
  | _ => ("PricedLooks", "finding", "I", false)
def tyX8 : Nat → FieldType := fun k => match k with
  | 0 => .array (.object "PricedLooks$Sheet")
  | 1 => .object "PricedLooks$Tape"
  | 2 => .object "PricedLooks$City"
  | 3 => .object "PricedLooks$City"
  | 4 => .object "PricedLooks$Reader"
  | 5 => .array (.object "PricedLooks$City")
  | 6 => .object "PricedLooks$Views"
  | 7 => .object "PricedLooks$Views"
  | 8 => .object "PricedLooks$WayHome"
  | 9 => .object "PricedLooks$Market"
  | 10 => .object "PricedLooks$Asks"
  | 11 => .int
  | _ => .int
abbrev wsX80 : List Cond := u_ws RX8 TX8 13
theorem nmX8 : ∀ a, a < 13 → ∀ b, b < 13 → a ≠ b → (TX8 a).2.1 ≠ (TX8 b).2.1 := by decide +kernel
theorem tyX8_ok : ∀ k, k < 13 → parseFieldDescriptor (TX8 k).2.2.1 = some (tyX8 k) := by decide +kernel
abbrev cX8_init : ByteArray := prog_1_method_1_code
def yX8_init : MethodName := ⟨RX8, "<init>", "()V"⟩
abbrev cX8_sheet : ByteArray := prog_1_method_2_code
def yX8_sheet : MethodName := ⟨RX8, "sheet", "(III)I"⟩
abbrev cX8_set : ByteArray := prog_1_method_3_code
def yX8_set : MethodName := ⟨RX8, "set", "(III)I"⟩
abbrev cX8_copy : ByteArray := prog_1_method_4_code
def yX8_copy : MethodName := ⟨RX8, "copy", "(IIIII)I"⟩
abbrev cX8_drop : ByteArray := prog_1_method_5_code
def yX8_drop : MethodName := ⟨RX8, "drop", "(I)I"⟩
abbrev cX8_feed : ByteArray := prog_1_method_6_code
def yX8_feed : MethodName := ⟨RX8, "feed", "(JI)I"⟩
abbrev cX8_city : ByteArray := prog_1_method_7_code
def yX8_city : MethodName := ⟨RX8, "city", "()I"⟩
abbrev cX8_fault : ByteArray := prog_1_method_8_code
def yX8_fault : MethodName := ⟨RX8, "fault", "()I"⟩
abbrev cX8_look : ByteArray := prog_1_method_9_code
def yX8_look : MethodName := ⟨RX8, "look", "(III)I"⟩
abbrev cX8_price : ByteArray := prog_1_method_10_code
def yX8_price : MethodName := ⟨RX8, "price", "(II)I"⟩
abbrev cX8_step : ByteArray := prog_1_method_11_code
def yX8_step : MethodName := ⟨RX8, "step", "(II)I"⟩
abbrev cX8_walk : ByteArray := prog_1_method_12_code
def yX8_walk : MethodName := ⟨RX8, "walk", "(IIII)I"⟩
abbrev cX8_person : ByteArray := prog_1_method_13_code
def yX8_person : MethodName := ⟨RX8, "person", "(II)I"⟩
abbrev cX8_got : ByteArray := prog_1_method_14_code
def yX8_got : MethodName := ⟨RX8, "got", "(I)I"⟩
abbrev cX8_witnesses : ByteArray := prog_1_method_15_code
def yX8_witnesses : MethodName := ⟨RX8, "witnesses", "(I)I"⟩
abbrev cX8_home : ByteArray := prog_1_method_16_code
def yX8_home : MethodName := ⟨RX8, "home", "(III)I"⟩
abbrev cX8_nothing : ByteArray := prog_1_method_17_code
def yX8_nothing : MethodName := ⟨RX8, "nothing", "(I)I"⟩
abbrev cX8_beauty : ByteArray := prog_1_method_18_code
def yX8_beauty : MethodName := ⟨RX8, "beauty", "(I)I"⟩
abbrev cX8_earns : ByteArray := prog_1_method_19_code
def yX8_earns : MethodName := ⟨RX8, "earns", "(II)I"⟩
abbrev cX8_rivals : ByteArray := prog_1_method_20_code
def yX8_rivals : MethodName := ⟨RX8, "rivals", "(I)I"⟩
abbrev cX8_wall : ByteArray := prog_1_method_21_code
def yX8_wall : MethodName := ⟨RX8, "wall", "(II)I"⟩
abbrev cX8_image : ByteArray := prog_1_method_22_code
def yX8_image : MethodName := ⟨RX8, "image", "(I)I"⟩
abbrev cX8_restore : ByteArray := prog_1_method_23_code
def yX8_restore : MethodName := ⟨RX8, "restore", "(I)I"⟩
abbrev cX8_kind : ByteArray := prog_1_method_24_code
def yX8_kind : MethodName := ⟨RX8, "kind", "(I)I"⟩
abbrev cX8_as : ByteArray := prog_1_method_25_code
def yX8_as : MethodName := ⟨RX8, "as", "(II)I"⟩
abbrev cX8_ask : ByteArray := prog_1_method_26_code
def yX8_ask : MethodName := ⟨RX8, "ask", "(II)I"⟩
abbrev cX8_trace : ByteArray := prog_1_method_27_code
def yX8_trace : MethodName := ⟨RX8, "trace", "(I)I"⟩
abbrev cX8_count : ByteArray := prog_1_method_28_code
def yX8_count : MethodName := ⟨RX8, "count", "(I)I"⟩
abbrev cX8_status : ByteArray := prog_1_method_29_code
def yX8_status : MethodName := ⟨RX8, "status", "()I"⟩
abbrev cX8_found : ByteArray := prog_1_method_30_code
def yX8_found : MethodName := ⟨RX8, "found", "(I)I"⟩
abbrev cX8_fine : ByteArray := prog_1_method_31_code
def yX8_fine : MethodName := ⟨RX8, "fine", "(I)I"⟩
abbrev cX8_within : ByteArray := prog_1_method_32_code
def yX8_within : MethodName := ⟨RX8, "within", "(II)Z"⟩
abbrev cX8_isSheet : ByteArray := prog_1_method_33_code
def yX8_isSheet : MethodName := ⟨RX8, "isSheet", "(I)Z"⟩
abbrev cX8_isOwner : ByteArray := prog_1_method_34_code
def yX8_isOwner : MethodName := ⟨RX8, "isOwner", "(I)Z"⟩
abbrev cX8_isPerson : ByteArray := prog_1_method_35_code
def yX8_isPerson : MethodName := ⟨RX8, "isPerson", "(I)Z"⟩
abbrev cX8_noCity : ByteArray := prog_1_method_36_code
def yX8_noCity : MethodName := ⟨RX8, "noCity", "()Z"⟩
abbrev cX8_sheetsThere : ByteArray := prog_1_method_37_code
def yX8_sheetsThere : MethodName := ⟨RX8, "sheetsThere", "()I"⟩
abbrev cX8_mostBlind : ByteArray := prog_1_method_38_code
def yX8_mostBlind : MethodName := ⟨RX8, "mostBlind", "(I)I"⟩
abbrev cX8_canStep : ByteArray := prog_1_method_39_code
def yX8_canStep : MethodName := ⟨RX8, "canStep", "(II)Z"⟩
abbrev cX8_goOneStep : ByteArray := prog_1_method_40_code
def yX8_goOneStep : MethodName := ⟨RX8, "goOneStep", "(II)I"⟩
abbrev cX8_lookAndPay : ByteArray := prog_1_method_41_code
def yX8_lookAndPay : MethodName := ⟨RX8, "lookAndPay", "(II)I"⟩
abbrev cX8_seenFrom : ByteArray := prog_1_method_42_code
def yX8_seenFrom : MethodName := ⟨RX8, "seenFrom", "(I)I"⟩
abbrev cX8_mostBeautiful : ByteArray := prog_1_method_43_code
def yX8_mostBeautiful : MethodName := ⟨RX8, "mostBeautiful", "()I"⟩
def RX9 : String := "PricedLooksModel"
def TX9 : u_T := fun k => match k with
  | 0 => ("PricedLooksModel", "thrown", "I", false)
  | 1 => ("PricedLooksModel", "status", "I", false)
  | 2 => ("PricedLooksModel", "lane", "[I", true)
  | 3 => ("PricedLooksModel", "many", "[I", true)
  | 4 => ("PricedLooksModel", "item", "[I", true)
  | 5 => ("PricedLooksModel", "city", "[I", true)
  | 6 => ("PricedLooksModel", "fresh", "[I", true)
  | 7 => ("PricedLooksModel", "isThere", "Z", false)
  | 8 => ("PricedLooksModel", "tape", "[I", true)
  | 9 => ("PricedLooksModel", "taped", "I", false)
  | 10 => ("PricedLooksModel", "latest", "I", false)
  | 11 => ("PricedLooksModel", "length", "I", false)
  | 12 => ("PricedLooksModel", "cursor", "I", false)
  | 13 => ("PricedLooksModel", "token", "I", false)
  | 14 => ("PricedLooksModel", "start", "I", false)
  | 15 => ("PricedLooksModel", "till", "I", false)
  | 16 => ("PricedLooksModel", "fault", "I", false)
  | 17 => ("PricedLooksModel", "faultAt", "I", false)
  | 18 => ("PricedLooksModel", "seen", "I", false)
  | 19 => ("PricedLooksModel", "mirrors", "I", false)
  | 20 => ("PricedLooksModel", "cost", "[I", true)
  | 21 => ("PricedLooksModel", "away", "[I", true)
  | 22 => ("PricedLooksModel", "fee", "[I", true)
  | 23 => ("PricedLooksModel", "goesTo", "[I", true)
  | 24 => ("PricedLooksModel", "priceWas", "[I", true)
  | 25 => ("PricedLooksModel", "isKept", "[Z", true)
  | 26 => ("PricedLooksModel", "kept", "[I", true)
  | 27 => ("PricedLooksModel", "trace", "[I", true)
  | _ => ("PricedLooksModel", "traced", "I", false)
def tyX9 : Nat → FieldType := fun k => match k with
  | 0 => .int
  | 1 => .int
  | 2 => .array .int
  | 3 => .array .int
  | 4 => .array .int
  | 5 => .array .int
  | 6 => .array .int
  | 7 => .boolean
  | 8 => .array .int
  | 9 => .int
  | 10 => .int
  | 11 => .int
  | 12 => .int
  | 13 => .int
  | 14 => .int
  | 15 => .int
  | 16 => .int
  | 17 => .int
  | 18 => .int
  | 19 => .int
  | 20 => .array .int
  | 21 => .array .int
  | 22 => .array .int
  | 23 => .array .int
  | 24 => .array .int
  | 25 => .array .boolean
  | 26 => .array .int
  | 27 => .array .int
  | _ => .int
abbrev wsX90 : List Cond := u_ws RX9 TX9 29
theorem nmX9 : ∀ a, a < 29 → ∀ b, b < 29 → a ≠ b → (TX9 a).2.1 ≠ (TX9 b).2.1 := by decide +kernel
theorem tyX9_ok : ∀ k, k < 29 → parseFieldDescriptor (TX9 k).2.2.1 = some (tyX9 k) := by decide +kernel
abbrev cX9_init : ByteArray := prog_11_method_1_code
def yX9_init : MethodName := ⟨RX9, "<init>", "()V"⟩
abbrev cX9_in : ByteArray := prog_11_method_3_code
def yX9_in : MethodName := ⟨RX9, "in", "(JJJ)Z"⟩
abbrev cX9_finding : ByteArray := prog_11_method_4_code
def yX9_finding : MethodName := ⟨RX9, "finding", "(I)I"⟩
abbrev cX9_isSheet : ByteArray := prog_11_method_5_code
def yX9_isSheet : MethodName := ⟨RX9, "isSheet", "(I)Z"⟩
abbrev cX9_sheet : ByteArray := prog_11_method_6_code
def yX9_sheet : MethodName := ⟨RX9, "sheet", "(III)I"⟩
abbrev cX9_set : ByteArray := prog_11_method_7_code
def yX9_set : MethodName := ⟨RX9, "set", "(III)I"⟩
abbrev cX9_copy : ByteArray := prog_11_method_8_code
def yX9_copy : MethodName := ⟨RX9, "copy", "(IIIII)I"⟩
abbrev cX9_drop : ByteArray := prog_11_method_9_code
def yX9_drop : MethodName := ⟨RX9, "drop", "(I)I"⟩
abbrev cX9_feed : ByteArray := prog_11_method_10_code
def yX9_feed : MethodName := ⟨RX9, "feed", "(JI)I"⟩
abbrev cX9_byteAt : ByteArray := prog_11_method_11_code
def yX9_byteAt : MethodName := ⟨RX9, "byteAt", "(I)I"⟩
abbrev cX9_isLetter : ByteArray := prog_11_method_12_code
def yX9_isLetter : MethodName := ⟨RX9, "isLetter", "(I)Z"⟩
abbrev cX9_isFigure : ByteArray := prog_11_method_13_code
def yX9_isFigure : MethodName := ⟨RX9, "isFigure", "(I)Z"⟩
abbrev cX9_next : ByteArray := prog_11_method_14_code
def yX9_next : MethodName := ⟨RX9, "next", "()V"⟩
abbrev cX9_begin : ByteArray := prog_11_method_15_code
def yX9_begin : MethodName := ⟨RX9, "begin", "()V"⟩
abbrev cX9_bad : ByteArray := prog_11_method_16_code
def yX9_bad : MethodName := ⟨RX9, "bad", "(I)V"⟩
abbrev cX9_must : ByteArray := prog_11_method_17_code
def yX9_must : MethodName := ⟨RX9, "must", "(Z)V"⟩
abbrev cX9_name : ByteArray := prog_11_method_18_code
def yX9_name : MethodName := ⟨RX9, "name", "()J"⟩
abbrev cX9_figures : ByteArray := prog_11_method_19_code
def yX9_figures : MethodName := ⟨RX9, "figures", "()I"⟩
abbrev cX9_number : ByteArray := prog_11_method_20_code
def yX9_number : MethodName := ⟨RX9, "number", "(II)I"⟩
abbrev cX9_mustEnd : ByteArray := prog_11_method_21_code
def yX9_mustEnd : MethodName := ⟨RX9, "mustEnd", "()V"⟩
abbrev cX9_begins : ByteArray := prog_11_method_22_code
def yX9_begins : MethodName := ⟨RX9, "begins", "(II)V"⟩
abbrev cX9_cellOf : ByteArray := prog_11_method_23_code
def yX9_cellOf : MethodName := ⟨RX9, "cellOf", "(I)I"⟩
abbrev cX9_isCells : ByteArray := prog_11_method_24_code
def yX9_isCells : MethodName := ⟨RX9, "isCells", "()Z"⟩
abbrev cX9_readRow : ByteArray := prog_11_method_25_code
def yX9_readRow : MethodName := ⟨RX9, "readRow", "()V"⟩
abbrev cX9_readPrice : ByteArray := prog_11_method_26_code
def yX9_readPrice : MethodName := ⟨RX9, "readPrice", "()V"⟩
abbrev cX9_openCell : ByteArray := prog_11_method_27_code
def yX9_openCell : MethodName := ⟨RX9, "openCell", "()I"⟩
abbrev cX9_readPerson : ByteArray := prog_11_method_28_code
def yX9_readPerson : MethodName := ⟨RX9, "readPerson", "()V"⟩
abbrev cX9_city : ByteArray := prog_11_method_29_code
def yX9_city : MethodName := ⟨RX9, "city", "()I"⟩
abbrev cX9_fault : ByteArray := prog_11_method_30_code
def yX9_fault : MethodName := ⟨RX9, "fault", "()I"⟩
abbrev cX9_isIn : ByteArray := prog_11_method_31_code
def yX9_isIn : MethodName := ⟨RX9, "isIn", "(II)Z"⟩
abbrev cX9_isCell : ByteArray := prog_11_method_32_code
def yX9_isCell : MethodName := ⟨RX9, "isCell", "(I)Z"⟩
abbrev cX9_isOpen : ByteArray := prog_11_method_33_code
def yX9_isOpen : MethodName := ⟨RX9, "isOpen", "(I)Z"⟩
abbrev cX9_east : ByteArray := prog_11_method_34_code
def yX9_east : MethodName := ⟨RX9, "east", "(I)I"⟩
abbrev cX9_south : ByteArray := prog_11_method_35_code
def yX9_south : MethodName := ⟨RX9, "south", "(I)I"⟩
abbrev cX9_nextTo : ByteArray := prog_11_method_36_code
def yX9_nextTo : MethodName := ⟨RX9, "nextTo", "(II)I"⟩
abbrev cX9_firstShut : ByteArray := prog_11_method_37_code
def yX9_firstShut : MethodName := ⟨RX9, "firstShut", "(II)I"⟩
abbrev cX9_lookFrom : ByteArray := prog_11_method_38_code
def yX9_lookFrom : MethodName := ⟨RX9, "lookFrom", "(II)V"⟩
abbrev cX9_ownerSeen : ByteArray := prog_11_method_39_code
def yX9_ownerSeen : MethodName := ⟨RX9, "ownerSeen", "()I"⟩
abbrev cX9_priceSeen : ByteArray := prog_11_method_40_code
def yX9_priceSeen : MethodName := ⟨RX9, "priceSeen", "()I"⟩
abbrev cX9_isWay : ByteArray := prog_11_method_41_code
def yX9_isWay : MethodName := ⟨RX9, "isWay", "(I)Z"⟩
abbrev cX9_look : ByteArray := prog_11_method_42_code
def yX9_look : MethodName := ⟨RX9, "look", "(III)I"⟩
abbrev cX9_isOwner : ByteArray := prog_11_method_43_code
def yX9_isOwner : MethodName := ⟨RX9, "isOwner", "(I)Z"⟩
abbrev cX9_price : ByteArray := prog_11_method_44_code
def yX9_price : MethodName := ⟨RX9, "price", "(II)I"⟩
abbrev cX9_isOne : ByteArray := prog_11_method_45_code
def yX9_isOne : MethodName := ⟨RX9, "isOne", "(I)Z"⟩
abbrev cX9_of : ByteArray := prog_11_method_46_code
def yX9_of : MethodName := ⟨RX9, "of", "(II)I"⟩
abbrev cX9_paysNow : ByteArray := prog_11_method_47_code
def yX9_paysNow : MethodName := ⟨RX9, "paysNow", "(I)I"⟩
abbrev cX9_mayGo : ByteArray := prog_11_method_48_code
def yX9_mayGo : MethodName := ⟨RX9, "mayGo", "(II)Z"⟩
abbrev cX9_steps : ByteArray := prog_11_method_49_code
def yX9_steps : MethodName := ⟨RX9, "steps", "(II)I"⟩
abbrev cX9_step : ByteArray := prog_11_method_50_code
def yX9_step : MethodName := ⟨RX9, "step", "(II)I"⟩
abbrev cX9_walk : ByteArray := prog_11_method_51_code
def yX9_walk : MethodName := ⟨RX9, "walk", "(IIII)I"⟩
abbrev cX9_person : ByteArray := prog_11_method_52_code
def yX9_person : MethodName := ⟨RX9, "person", "(II)I"⟩
abbrev cX9_got : ByteArray := prog_11_method_53_code
def yX9_got : MethodName := ⟨RX9, "got", "(I)I"⟩
abbrev cX9_witnesses : ByteArray := prog_11_method_54_code
def yX9_witnesses : MethodName := ⟨RX9, "witnesses", "(I)I"⟩
abbrev cX9_layFees : ByteArray := prog_11_method_55_code
def yX9_layFees : MethodName := ⟨RX9, "layFees", "(I)V"⟩
abbrev cX9_isLess : ByteArray := prog_11_method_56_code
def yX9_isLess : MethodName := ⟨RX9, "isLess", "(III)Z"⟩
abbrev cX9_relax : ByteArray := prog_11_method_57_code
def yX9_relax : MethodName := ⟨RX9, "relax", "(I)Z"⟩
abbrev cX9_layHome : ByteArray := prog_11_method_58_code
def yX9_layHome : MethodName := ⟨RX9, "layHome", "(II)V"⟩
abbrev cX9_bestStep : ByteArray := prog_11_method_59_code
def yX9_bestStep : MethodName := ⟨RX9, "bestStep", "(II)I"⟩
abbrev cX9_home : ByteArray := prog_11_method_60_code
def yX9_home : MethodName := ⟨RX9, "home", "(III)I"⟩
abbrev cX9_nothing : ByteArray := prog_11_method_61_code
def yX9_nothing : MethodName := ⟨RX9, "nothing", "(I)I"⟩
abbrev cX9_beautyOf : ByteArray := prog_11_method_62_code
def yX9_beautyOf : MethodName := ⟨RX9, "beautyOf", "(I)I"⟩
abbrev cX9_beauty : ByteArray := prog_11_method_63_code
def yX9_beauty : MethodName := ⟨RX9, "beauty", "(I)I"⟩
abbrev cX9_earnsOf : ByteArray := prog_11_method_64_code
def yX9_earnsOf : MethodName := ⟨RX9, "earnsOf", "(II)I"⟩
abbrev cX9_earned : ByteArray := prog_11_method_65_code
def yX9_earned : MethodName := ⟨RX9, "earned", "(I)I"⟩
abbrev cX9_bestPrice : ByteArray := prog_11_method_66_code
def yX9_bestPrice : MethodName := ⟨RX9, "bestPrice", "(I)I"⟩
abbrev cX9_earns : ByteArray := prog_11_method_67_code
def yX9_earns : MethodName := ⟨RX9, "earns", "(II)I"⟩
abbrev cX9_hasFront : ByteArray := prog_11_method_68_code
def yX9_hasFront : MethodName := ⟨RX9, "hasFront", "(I)Z"⟩
abbrev cX9_roundOf : ByteArray := prog_11_method_69_code
def yX9_roundOf : MethodName := ⟨RX9, "roundOf", "()Z"⟩
abbrev cX9_rivals : ByteArray := prog_11_method_70_code
def yX9_rivals : MethodName := ⟨RX9, "rivals", "(I)I"⟩
abbrev cX9_wall : ByteArray := prog_11_method_71_code
def yX9_wall : MethodName := ⟨RX9, "wall", "(II)I"⟩
abbrev cX9_image : ByteArray := prog_11_method_72_code
def yX9_image : MethodName := ⟨RX9, "image", "(I)I"⟩
abbrev cX9_restore : ByteArray := prog_11_method_73_code
def yX9_restore : MethodName := ⟨RX9, "restore", "(I)I"⟩
abbrev cX9_kindOf : ByteArray := prog_11_method_74_code
def yX9_kindOf : MethodName := ⟨RX9, "kindOf", "(I)I"⟩
abbrev cX9_isOf : ByteArray := prog_11_method_75_code
def yX9_isOf : MethodName := ⟨RX9, "isOf", "(II)Z"⟩
abbrev cX9_kind : ByteArray := prog_11_method_76_code
def yX9_kind : MethodName := ⟨RX9, "kind", "(I)I"⟩
abbrev cX9_as : ByteArray := prog_11_method_77_code
def yX9_as : MethodName := ⟨RX9, "as", "(II)I"⟩
abbrev cX9_began : ByteArray := prog_11_method_78_code
def yX9_began : MethodName := ⟨RX9, "began", "(I)V"⟩
abbrev cX9_plainSize : ByteArray := prog_11_method_79_code
def yX9_plainSize : MethodName := ⟨RX9, "plainSize", "(I)I"⟩
abbrev cX9_wallSize : ByteArray := prog_11_method_80_code
def yX9_wallSize : MethodName := ⟨RX9, "wallSize", "(I)I"⟩
abbrev cX9_markOf : ByteArray := prog_11_method_81_code
def yX9_markOf : MethodName := ⟨RX9, "markOf", "(II)I"⟩
abbrev cX9_sizeOf : ByteArray := prog_11_method_82_code
def yX9_sizeOf : MethodName := ⟨RX9, "sizeOf", "(II)I"⟩
abbrev cX9_ask : ByteArray := prog_11_method_83_code
def yX9_ask : MethodName := ⟨RX9, "ask", "(II)I"⟩
abbrev cX9_trace : ByteArray := prog_11_method_84_code
def yX9_trace : MethodName := ⟨RX9, "trace", "(I)I"⟩
abbrev cX9_howMany : ByteArray := prog_11_method_85_code
def yX9_howMany : MethodName := ⟨RX9, "howMany", "(Z)I"⟩
abbrev cX9_count : ByteArray := prog_11_method_86_code
def yX9_count : MethodName := ⟨RX9, "count", "(I)I"⟩
abbrev cX9_status : ByteArray := prog_11_method_87_code
def yX9_status : MethodName := ⟨RX9, "status", "()I"⟩
def RJx145de : String := "java/io/Serializable"
def TJx145de : u_T := fun k => match k with
  | _ => ("", "", "", false)
def tyJx145de : Nat → FieldType := fun k => match k with
  | _ => .int
abbrev wsJx145de0 : List Cond := u_ws RJx145de TJx145de 0
theorem nmJx145de : ∀ a, a < 0 → ∀ b, b < 0 → a ≠ b → (TJx145de a).2.1 ≠ (TJx145de b).2.1 := by decide +kernel
theorem tyJx145de_ok : ∀ k, k < 0 → parseFieldDescriptor (TJx145de k).2.2.1 = some (tyJx145de k) := by decide +kernel
def RJx9f9b0 : String := "java/lang/CharSequence"
def TJx9f9b0 : u_T := fun k => match k with
  | _ => ("", "", "", false)
def tyJx9f9b0 : Nat → FieldType := fun k => match k with
  | _ => .int
abbrev wsJx9f9b00 : List Cond := u_ws RJx9f9b0 TJx9f9b0 0
theorem nmJx9f9b0 : ∀ a, a < 0 → ∀ b, b < 0 → a ≠ b → (TJx9f9b0 a).2.1 ≠ (TJx9f9b0 b).2.1 := by decide +kernel
theorem tyJx9f9b0_ok : ∀ k, k < 0 → parseFieldDescriptor (TJx9f9b0 k).2.2.1 = some (tyJx9f9b0 k) := by decide +kernel
def RJxb160c : String := "java/lang/Comparable"
def TJxb160c : u_T := fun k => match k with
  | _ => ("", "", "", false)
def tyJxb160c : Nat → FieldType := fun k => match k with
  | _ => .int
abbrev wsJxb160c0 : List Cond := u_ws RJxb160c TJxb160c 0
theorem nmJxb160c : ∀ a, a < 0 → ∀ b, b < 0 → a ≠ b → (TJxb160c a).2.1 ≠ (TJxb160c b).2.1 := by decide +kernel
theorem tyJxb160c_ok : ∀ k, k < 0 → parseFieldDescriptor (TJxb160c k).2.2.1 = some (tyJxb160c k) := by decide +kernel
def RJ0 : String := "java/lang/String"
def TJ0 : u_T := fun k => match k with
  | _ => ("", "", "", false)
def tyJ0 : Nat → FieldType := fun k => match k with
  | _ => .int
abbrev wsJ00 : List Cond := u_ws RJ0 TJ0 0
theorem nmJ0 : ∀ a, a < 0 → ∀ b, b < 0 → a ≠ b → (TJ0 a).2.1 ≠ (TJ0 b).2.1 := by decide +kernel
theorem tyJ0_ok : ∀ k, k < 0 → parseFieldDescriptor (TJ0 k).2.2.1 = some (tyJ0 k) := by decide +kernel
abbrev cJ0_length_8abf5 : ByteArray := prog_12_method_54_code
def yJ0_length_8abf5 : MethodName := ⟨RJ0, "length", "()I"⟩
abbrev cJ0_charAt_5068e : ByteArray := prog_12_method_56_code
def yJ0_charAt_5068e : MethodName := ⟨RJ0, "charAt", "(I)C"⟩
abbrev cJ0_coder_7d493 : ByteArray := prog_12_method_152_code
def yJ0_coder_7d493 : MethodName := ⟨RJ0, "coder", "()B"⟩
abbrev cJ0_isLatin1_aae02 : ByteArray := prog_12_method_154_code
def yJ0_isLatin1_aae02 : MethodName := ⟨RJ0, "isLatin1", "()Z"⟩
abbrev cJ0_checkIndex_df160 : ByteArray := prog_12_method_155_code
def yJ0_checkIndex_df160 : MethodName := ⟨RJ0, "checkIndex", "(II)V"⟩
def RJ1 : String := "java/lang/StringLatin1"
def TJ1 : u_T := fun k => match k with
  | _ => ("", "", "", false)
def tyJ1 : Nat → FieldType := fun k => match k with
  | _ => .int
abbrev wsJ10 : List Cond := u_ws RJ1 TJ1 0
theorem nmJ1 : ∀ a, a < 0 → ∀ b, b < 0 → a ≠ b → (TJ1 a).2.1 ≠ (TJ1 b).2.1 := by decide +kernel
theorem tyJ1_ok : ∀ k, k < 0 → parseFieldDescriptor (TJ1 k).2.2.1 = some (tyJ1 k) := by decide +kernel
abbrev cJ1_charAt_3b067 : ByteArray := prog_13_method_2_code
def yJ1_charAt_3b067 : MethodName := ⟨RJ1, "charAt", "([BI)C"⟩
def RJ2 : String := "java/lang/StringUTF16"
def TJ2 : u_T := fun k => match k with
  | _ => ("", "", "", false)
def tyJ2 : Nat → FieldType := fun k => match k with
  | _ => .int
abbrev wsJ20 : List Cond := u_ws RJ2 TJ2 0
theorem nmJ2 : ∀ a, a < 0 → ∀ b, b < 0 → a ≠ b → (TJ2 a).2.1 ≠ (TJ2 b).2.1 := by decide +kernel
theorem tyJ2_ok : ∀ k, k < 0 → parseFieldDescriptor (TJ2 k).2.2.1 = some (tyJ2 k) := by decide +kernel
abbrev cJ2_getChar_3b067 : ByteArray := prog_14_method_5_code
def yJ2_getChar_3b067 : MethodName := ⟨RJ2, "getChar", "([BI)C"⟩
abbrev cJ2_length_9d52b : ByteArray := prog_14_method_6_code
def yJ2_length_9d52b : MethodName := ⟨RJ2, "length", "([B)I"⟩
abbrev cJ2_charAt_3b067 : ByteArray := prog_14_method_83_code
def yJ2_charAt_3b067 : MethodName := ⟨RJ2, "charAt", "([BI)C"⟩
abbrev cJ2_checkIndex_2214a : ByteArray := prog_14_method_91_code
def yJ2_checkIndex_2214a : MethodName := ⟨RJ2, "checkIndex", "(I[B)V"⟩
def RJ10 : String := "java/lang/System"
def TJ10 : u_T := fun k => match k with
  | _ => ("", "", "", false)
def tyJ10 : Nat → FieldType := fun k => match k with
  | _ => .int
abbrev wsJ100 : List Cond := u_ws RJ10 TJ10 0
theorem nmJ10 : ∀ a, a < 0 → ∀ b, b < 0 → a ≠ b → (TJ10 a).2.1 ≠ (TJ10 b).2.1 := by decide +kernel
theorem tyJ10_ok : ∀ k, k < 0 → parseFieldDescriptor (TJ10 k).2.2.1 = some (tyJ10 k) := by decide +kernel
def RJxfd54e : String := "java/lang/constant/Constable"
def TJxfd54e : u_T := fun k => match k with
  | _ => ("", "", "", false)
def tyJxfd54e : Nat → FieldType := fun k => match k with
  | _ => .int
abbrev wsJxfd54e0 : List Cond := u_ws RJxfd54e TJxfd54e 0
theorem nmJxfd54e : ∀ a, a < 0 → ∀ b, b < 0 → a ≠ b → (TJxfd54e a).2.1 ≠ (TJxfd54e b).2.1 := by decide +kernel
theorem tyJxfd54e_ok : ∀ k, k < 0 → parseFieldDescriptor (TJxfd54e k).2.2.1 = some (tyJxfd54e k) := by decide +kernel
def RJx3cf43 : String := "java/lang/constant/ConstantDesc"
def TJx3cf43 : u_T := fun k => match k with
  | _ => ("", "", "", false)
def tyJx3cf43 : Nat → FieldType := fun k => match k with
  | _ => .int
abbrev wsJx3cf430 : List Cond := u_ws RJx3cf43 TJx3cf43 0
theorem nmJx3cf43 : ∀ a, a < 0 → ∀ b, b < 0 → a ≠ b → (TJx3cf43 a).2.1 ≠ (TJx3cf43 b).2.1 := by decide +kernel
theorem tyJx3cf43_ok : ∀ k, k < 0 → parseFieldDescriptor (TJx3cf43 k).2.2.1 = some (tyJx3cf43 k) := by decide +kernel
def RJ7 : String := "java/util/Arrays"
def TJ7 : u_T := fun k => match k with
  | _ => ("", "", "", false)
def tyJ7 : Nat → FieldType := fun k => match k with
  | _ => .int
abbrev wsJ70 : List Cond := u_ws RJ7 TJ7 0
theorem nmJ7 : ∀ a, a < 0 → ∀ b, b < 0 → a ≠ b → (TJ7 a).2.1 ≠ (TJ7 b).2.1 := by decide +kernel
theorem tyJ7_ok : ∀ k, k < 0 → parseFieldDescriptor (TJ7 k).2.2.1 = some (tyJ7 k) := by decide +kernel
abbrev cJ7_fill_53178 : ByteArray := prog_16_method_103_code
def yJ7_fill_53178 : MethodName := ⟨RJ7, "fill", "([II)V"⟩
def RJ3 : String := "jdk/internal/util/Preconditions"
def TJ3 : u_T := fun k => match k with
  | _ => ("", "", "", false)
def tyJ3 : Nat → FieldType := fun k => match k with
  | _ => .int
abbrev wsJ30 : List Cond := u_ws RJ3 TJ3 0
theorem nmJ3 : ∀ a, a < 0 → ∀ b, b < 0 → a ≠ b → (TJ3 a).2.1 ≠ (TJ3 b).2.1 := by decide +kernel
theorem tyJ3_ok : ∀ k, k < 0 → parseFieldDescriptor (TJ3 k).2.2.1 = some (tyJ3 k) := by decide +kernel
abbrev cJ3_checkIndex_8e157 : ByteArray := prog_17_method_11_code
def yJ3_checkIndex_8e157 : MethodName := ⟨RJ3, "checkIndex", "(IILjava/util/function/BiFunction;)I"⟩
def RL : String := "PricedLooksLaw"
abbrev cL_law : ByteArray := code
def yL_law : MethodName := ⟨RL, "law", "([I)Z"⟩
theorem inJx145de : ∀ w ∈ wsJx145de0, w ∈ lw_tbl := by decide +kernel
theorem inJx9f9b0 : ∀ w ∈ wsJx9f9b00, w ∈ lw_tbl := by decide +kernel
theorem inJxb160c : ∀ w ∈ wsJxb160c0, w ∈ lw_tbl := by decide +kernel
theorem inJ0 : ∀ w ∈ wsJ00, w ∈ lw_tbl := by decide +kernel
theorem inJ1 : ∀ w ∈ wsJ10, w ∈ lw_tbl := by decide +kernel
theorem inJ2 : ∀ w ∈ wsJ20, w ∈ lw_tbl := by decide +kernel
theorem inJ10 : ∀ w ∈ wsJ100, w ∈ lw_tbl := by decide +kernel
theorem inJxfd54e : ∀ w ∈ wsJxfd54e0, w ∈ lw_tbl := by decide +kernel
theorem inJx3cf43 : ∀ w ∈ wsJx3cf430, w ∈ lw_tbl := by decide +kernel
theorem inJ7 : ∀ w ∈ wsJ70, w ∈ lw_tbl := by decide +kernel
theorem inJ3 : ∀ w ∈ wsJ30, w ∈ lw_tbl := by decide +kernel
abbrev vwCl : List vw_C := [(RX0, TX0, 3), (RX1, TX1, 12), (RX2, TX2, 5), (RX3, TX3, 4), (RX4, TX4, 3), (RX5, TX5, 6), (RX6, TX6, 4), (RX7, TX7, 11), (RX8, TX8, 13), (RX9, TX9, 29)]
