theorem mem_tc {a b : List Cond} {L : List (List Cond)} (h : ∀ c ∈ L, ∀ w ∈ c, w ∈ b) : ∀ c ∈ a :: L, ∀ w ∈ c, w ∈ a ++ b := by
  intro c hc w hw
  rcases List.mem_cons.mp hc with rfl | hc
  · exact List.mem_append_left _ hw
  · exact List.mem_append_right _ (h c hc w hw)
theorem mem_t1 {a : List Cond} : ∀ c ∈ [a], ∀ w ∈ c, w ∈ a := by
  intro c hc w hw
  rcases List.mem_cons.mp hc with rfl | hc
  · exact hw
  · exact absurd hc List.not_mem_nil
noncomputable def tbL : List (List Cond) := [k2_sels lw_privs, tables_1_1, tables_1_2, tables_1_3, tables_1_4, tables_1_5, tables_1_6]
theorem tbL_in : ∀ c ∈ tbL, ∀ w ∈ c, w ∈ lw_tbl := mem_tc (mem_tc (mem_tc (mem_tc (mem_tc (mem_tc mem_t1)))))
theorem mem_t {ws : List Cond} (ps : List (Nat × Nat)) (hp : ws = ps.filterMap (fun q => (tbL.getD q.1 [])[q.2]?)) : ∀ w ∈ ws, w ∈ lw_tbl := by
  intro w hw
  rw [hp] at hw
  obtain ⟨q, -, hq⟩ := List.mem_filterMap.mp hw
  have h1 : w ∈ tbL.getD q.1 [] := List.mem_of_getElem? hq
  rw [List.getD_eq_getElem?_getD] at h1
  cases hk : tbL[q.1]? with
  | none => rw [hk] at h1; exact absurd h1 List.not_mem_nil
  | some c => rw [hk] at h1; exact tbL_in c (List.mem_of_getElem? hk) w h1
set_option maxRecDepth 20000 in
theorem lin_r1 : ∀ w ∈ wsL_law_r1, w ∈ lw_tbl := mem_t [(1, 17), (1, 18), (1, 1), (4, 144), (4, 145), (1, 10), (6, 116), (1, 19), (1, 20), (1, 21), (1, 22), (1, 23), (1, 24), (1, 25), (2, 34), (1, 27), (1, 28), (1, 2), (2, 35), (1, 59), (1, 60), (1, 3), (2, 36), (2, 37)] (by first | exact rfl | decide +kernel)
set_option maxRecDepth 20000 in
theorem lin_r2 : ∀ w ∈ wsL_law_r2, w ∈ lw_tbl := mem_t [(1, 127), (1, 128), (1, 4), (2, 38), (2, 39), (1, 149), (1, 150), (1, 5), (2, 40), (2, 41), (1, 175), (1, 176), (1, 6), (2, 42), (1, 215), (1, 216), (1, 7), (2, 43), (1, 238), (1, 239), (1, 8), (2, 44), (2, 45), (2, 46)] (by first | exact rfl | decide +kernel)
set_option maxRecDepth 20000 in
theorem lin_r3 : ∀ w ∈ wsL_law_r3, w ∈ lw_tbl := mem_t [(2, 16), (1, 9), (1, 30), (1, 31), (1, 32), (1, 58), (1, 33), (1, 35), (1, 37), (1, 39), (1, 41), (1, 43), (1, 62), (1, 63), (1, 64), (1, 65), (1, 68), (1, 71), (1, 75), (1, 78), (1, 83), (1, 85), (1, 89), (1, 93)] (by first | exact rfl | decide +kernel)
set_option maxRecDepth 20000 in
theorem lin_r4 : ∀ w ∈ wsL_law_r4, w ∈ lw_tbl := mem_t [(1, 96), (1, 98), (1, 100), (1, 129), (1, 130), (1, 131), (1, 132), (1, 135), (1, 137), (1, 133), (1, 134), (1, 152), (1, 153), (1, 154), (1, 155), (1, 158), (1, 160), (1, 163), (1, 177), (1, 178), (1, 179), (1, 180), (1, 184), (1, 185)] (by first | exact rfl | decide +kernel)
set_option maxRecDepth 20000 in
theorem lin_r5 : ∀ w ∈ wsL_law_r5, w ∈ lw_tbl := mem_t [(1, 186), (1, 187), (1, 188), (1, 189), (1, 190), (1, 191), (1, 181), (1, 182), (1, 79), (1, 183), (1, 217), (1, 218), (1, 219), (1, 220), (1, 223), (1, 225), (1, 226), (1, 221), (1, 222), (2, 0), (2, 1), (2, 2), (2, 3), (2, 5)] (by first | exact rfl | decide +kernel)
set_option maxRecDepth 20000 in
theorem lin_r6 : ∀ w ∈ wsL_law_r6, w ∈ lw_tbl := mem_t [(2, 7), (2, 4), (2, 18), (2, 19), (2, 20), (2, 21), (2, 23), (2, 25), (4, 146), (4, 147), (4, 148), (4, 149), (4, 152), (4, 153), (4, 154), (4, 155), (4, 156), (4, 158), (4, 170), (4, 171), (4, 172), (4, 173), (4, 174), (4, 238)] (by first | exact rfl | decide +kernel)
set_option maxRecDepth 20000 in
theorem lin_r7 : ∀ w ∈ wsL_law_r7, w ∈ lw_tbl := mem_t [(4, 175), (4, 176), (4, 177), (2, 74), (2, 75), (2, 76), (2, 77), (2, 84), (2, 78), (2, 79), (2, 80), (2, 81), (2, 82), (2, 83), (2, 85), (2, 87), (0, 0), (2, 88), (2, 89), (2, 90), (2, 91), (2, 92), (2, 93), (2, 94)] (by first | exact rfl | decide +kernel)
set_option maxRecDepth 20000 in
theorem lin_r8 : ∀ w ∈ wsL_law_r8, w ∈ lw_tbl := mem_t [(2, 95), (1, 11), (2, 96), (2, 97), (2, 99), (0, 1), (2, 100), (4, 239), (5, 0), (5, 1), (5, 2), (4, 150), (5, 10), (5, 11), (4, 151), (5, 3), (5, 4), (5, 5), (5, 6), (5, 7), (5, 8), (5, 9), (5, 12), (5, 14)] (by first | exact rfl | decide +kernel)
set_option maxRecDepth 20000 in
theorem lin_r9 : ∀ w ∈ wsL_law_r9, w ∈ lw_tbl := mem_t [(0, 35), (5, 15), (5, 16), (2, 101), (2, 102), (2, 103), (2, 104), (2, 24), (2, 105), (2, 106), (2, 107), (2, 108), (2, 109), (2, 110), (2, 111), (2, 112), (5, 17), (5, 18), (5, 19), (5, 20), (2, 113), (2, 114), (2, 115), (2, 116)] (by first | exact rfl | decide +kernel)
set_option maxRecDepth 20000 in
theorem lin_r10 : ∀ w ∈ wsL_law_r10, w ∈ lw_tbl := mem_t [(2, 22), (2, 26), (2, 121), (2, 123), (2, 122), (1, 12), (2, 117), (2, 118), (2, 119), (2, 120), (5, 21), (5, 22), (5, 23), (5, 24), (2, 124), (2, 125), (2, 126), (2, 127), (5, 25), (5, 26), (5, 27), (5, 28), (2, 128), (2, 129)] (by first | exact rfl | decide +kernel)
set_option maxRecDepth 20000 in
theorem lin_r11 : ∀ w ∈ wsL_law_r11, w ∈ lw_tbl := mem_t [(2, 130), (2, 131), (2, 136), (1, 36), (2, 132), (2, 133), (2, 134), (2, 135), (2, 137), (2, 138), (2, 139), (2, 140), (5, 29), (5, 30), (5, 31), (5, 32), (5, 33), (4, 159), (5, 34), (5, 35), (2, 141), (2, 142), (2, 143), (2, 144)] (by first | exact rfl | decide +kernel)
set_option maxRecDepth 20000 in
theorem lin_r12 : ∀ w ∈ wsL_law_r12, w ∈ lw_tbl := mem_t [(1, 136), (3, 48), (1, 138), (1, 73), (2, 145), (2, 146), (2, 147), (2, 148), (1, 38), (2, 149), (2, 150), (2, 151), (2, 152), (2, 153), (2, 154), (2, 155), (2, 156), (2, 157), (2, 158), (2, 159), (2, 160), (2, 161), (2, 162), (2, 163)] (by first | exact rfl | decide +kernel)
set_option maxRecDepth 20000 in
theorem lin_r13 : ∀ w ∈ wsL_law_r13, w ∈ lw_tbl := mem_t [(2, 164), (2, 165), (2, 167), (0, 2), (2, 168), (2, 170), (2, 171), (2, 172), (2, 173), (2, 174), (2, 175), (2, 176), (2, 177), (2, 178), (2, 179), (2, 180), (1, 13), (2, 181), (6, 117), (2, 182), (2, 183), (2, 184), (2, 185), (2, 186)] (by first | exact rfl | decide +kernel)
set_option maxRecDepth 20000 in
theorem lin_r14 : ∀ w ∈ wsL_law_r14, w ∈ lw_tbl := mem_t [(6, 118), (2, 188), (2, 189), (2, 190), (2, 191), (2, 192), (2, 193), (2, 194), (2, 195), (2, 196), (2, 197), (1, 14), (2, 198), (2, 199), (2, 200), (2, 201), (2, 202), (2, 204), (2, 205), (1, 15), (2, 206), (2, 207), (2, 208), (1, 16)] (by first | exact rfl | decide +kernel)
set_option maxRecDepth 20000 in
theorem lin_r15 : ∀ w ∈ wsL_law_r15, w ∈ lw_tbl := mem_t [(2, 209), (2, 210), (2, 211), (2, 212), (2, 213), (2, 214), (2, 215), (2, 216), (2, 217), (2, 218), (2, 219), (2, 220), (2, 222), (2, 224), (2, 226), (2, 228), (0, 3), (2, 229), (1, 40), (2, 230), (2, 232), (0, 4), (2, 233), (2, 234)] (by first | exact rfl | decide +kernel)
set_option maxRecDepth 20000 in
theorem lin_r16 : ∀ w ∈ wsL_law_r16, w ∈ lw_tbl := mem_t [(2, 236), (0, 5), (2, 237), (1, 66), (1, 69), (1, 76), (1, 34), (2, 238), (2, 239), (3, 1), (0, 6), (3, 2), (1, 42), (3, 3), (3, 4), (3, 5), (3, 6), (3, 7), (3, 9), (0, 7), (3, 10), (3, 11), (3, 13), (0, 8)] (by first | exact rfl | decide +kernel)
set_option maxRecDepth 20000 in
theorem lin_r17 : ∀ w ∈ wsL_law_r17, w ∈ lw_tbl := mem_t [(3, 14), (3, 16), (3, 18), (0, 9), (3, 19), (1, 82), (1, 84), (3, 20), (3, 22), (0, 10), (3, 23), (1, 44), (3, 25), (3, 27), (0, 11), (3, 28), (3, 30), (3, 32), (0, 12), (3, 33), (1, 87), (1, 91), (1, 94), (1, 74)] (by first | exact rfl | decide +kernel)
set_option maxRecDepth 20000 in
theorem lin_r18 : ∀ w ∈ wsL_law_r18, w ∈ lw_tbl := mem_t [(3, 34), (3, 36), (0, 13), (3, 37), (3, 38), (3, 39), (3, 40), (3, 41), (3, 42), (3, 43), (3, 44), (3, 45), (3, 49), (3, 50), (3, 51), (3, 52), (3, 53), (3, 54), (3, 55), (3, 56), (3, 57), (3, 58), (3, 60), (0, 14)] (by first | exact rfl | decide +kernel)
set_option maxRecDepth 20000 in
theorem lin_r19 : ∀ w ∈ wsL_law_r19, w ∈ lw_tbl := mem_t [(3, 61), (3, 66), (3, 67), (3, 68), (3, 69), (3, 72), (3, 73), (3, 75), (0, 15), (3, 76), (3, 77), (3, 78), (3, 79), (3, 80), (3, 81), (3, 83), (0, 16), (3, 84), (3, 85), (3, 86), (3, 87), (3, 88), (5, 36), (5, 37)] (by first | exact rfl | decide +kernel)
set_option maxRecDepth 20000 in
theorem lin_r20 : ∀ w ∈ wsL_law_r20, w ∈ lw_tbl := mem_t [(5, 38), (5, 39), (5, 63), (5, 91), (5, 105), (4, 166), (4, 163), (4, 160), (5, 116), (4, 167), (4, 157), (5, 40), (5, 42), (0, 36), (5, 43), (4, 161), (4, 162), (5, 44), (5, 46), (0, 37), (5, 47), (4, 164), (5, 52), (4, 165)] (by first | exact rfl | decide +kernel)
set_option maxRecDepth 20000 in
theorem lin_r21 : ∀ w ∈ wsL_law_r21, w ∈ lw_tbl := mem_t [(5, 48), (5, 50), (0, 38), (5, 51), (5, 53), (5, 54), (5, 55), (5, 56), (5, 57), (5, 58), (5, 59), (5, 61), (0, 39), (5, 62), (5, 64), (5, 66), (0, 40), (5, 67), (5, 68), (5, 70), (0, 41), (5, 71), (5, 72), (5, 74)] (by first | exact rfl | decide +kernel)
set_option maxRecDepth 20000 in
theorem lin_r22 : ∀ w ∈ wsL_law_r22, w ∈ lw_tbl := mem_t [(0, 42), (5, 75), (5, 76), (5, 78), (0, 43), (5, 79), (5, 80), (5, 82), (0, 44), (5, 83), (5, 84), (5, 85), (5, 86), (5, 87), (5, 89), (0, 45), (5, 90), (5, 92), (5, 94), (0, 46), (5, 95), (5, 104), (5, 96), (5, 98)] (by first | exact rfl | decide +kernel)
set_option maxRecDepth 20000 in
theorem lin_r23 : ∀ w ∈ wsL_law_r23, w ∈ lw_tbl := mem_t [(0, 47), (5, 99), (5, 100), (5, 102), (0, 48), (5, 103), (5, 106), (5, 108), (0, 49), (5, 109), (5, 114), (5, 115), (5, 110), (5, 112), (0, 50), (5, 113), (3, 90), (3, 91), (3, 92), (3, 93), (5, 117), (5, 118), (5, 119), (5, 120)] (by first | exact rfl | decide +kernel)
set_option maxRecDepth 20000 in
theorem lin_r24 : ∀ w ∈ wsL_law_r24, w ∈ lw_tbl := mem_t [(3, 94), (3, 95), (3, 96), (3, 97), (1, 159), (3, 99), (1, 162), (3, 98), (3, 100), (3, 101), (3, 102), (3, 103), (3, 104), (3, 105), (3, 106), (3, 107), (3, 108), (5, 121), (5, 122), (5, 123), (5, 124), (4, 168), (4, 169), (5, 125)] (by first | exact rfl | decide +kernel)
set_option maxRecDepth 20000 in
theorem lin_r25 : ∀ w ∈ wsL_law_r25, w ∈ lw_tbl := mem_t [(5, 127), (0, 51), (5, 128), (5, 129), (5, 131), (0, 52), (5, 132), (5, 133), (5, 134), (5, 136), (0, 53), (5, 137), (5, 138), (5, 139), (5, 140), (5, 141), (5, 143), (0, 54), (5, 144), (5, 145), (5, 147), (0, 55), (5, 148), (5, 149)] (by first | exact rfl | decide +kernel)
set_option maxRecDepth 20000 in
theorem lin_r26 : ∀ w ∈ wsL_law_r26, w ∈ lw_tbl := mem_t [(5, 151), (0, 56), (5, 152), (5, 153), (5, 154), (5, 155), (5, 156), (5, 157), (5, 158), (5, 159), (5, 161), (0, 57), (5, 162), (5, 163), (5, 165), (0, 58), (5, 166), (3, 109), (3, 110), (3, 111), (3, 112), (3, 121), (1, 81), (3, 113)] (by first | exact rfl | decide +kernel)
set_option maxRecDepth 20000 in
theorem lin_r27 : ∀ w ∈ wsL_law_r27, w ∈ lw_tbl := mem_t [(3, 115), (0, 17), (3, 116), (3, 117), (3, 118), (3, 119), (3, 120), (3, 122), (3, 123), (3, 124), (5, 167), (5, 168), (5, 169), (5, 170), (5, 171), (5, 176), (5, 172), (5, 173), (5, 174), (5, 175), (3, 125), (3, 126), (3, 127), (3, 128)] (by first | exact rfl | decide +kernel)
set_option maxRecDepth 20000 in
theorem lin_r28 : ∀ w ∈ wsL_law_r28, w ∈ lw_tbl := mem_t [(3, 129), (3, 131), (0, 18), (3, 132), (3, 133), (3, 135), (0, 19), (3, 136), (1, 95), (3, 137), (3, 139), (0, 20), (3, 140), (1, 88), (1, 157), (1, 97), (3, 141), (3, 143), (0, 21), (3, 144), (1, 165), (1, 99), (1, 101), (3, 145)] (by first | exact rfl | decide +kernel)
set_option maxRecDepth 20000 in
theorem lin_r29 : ∀ w ∈ wsL_law_r29, w ∈ lw_tbl := mem_t [(3, 146), (3, 147), (3, 148), (5, 177), (5, 178), (5, 179), (5, 180), (5, 181), (5, 183), (0, 59), (5, 184), (5, 185), (5, 187), (0, 60), (5, 188), (5, 193), (5, 189), (5, 191), (0, 61), (5, 192), (5, 194), (5, 196), (0, 62), (5, 197)] (by first | exact rfl | decide +kernel)
set_option maxRecDepth 20000 in
theorem lin_r30 : ∀ w ∈ wsL_law_r30, w ∈ lw_tbl := mem_t [(5, 198), (5, 200), (0, 63), (5, 201), (3, 149), (3, 150), (3, 151), (3, 152), (5, 202), (5, 203), (5, 204), (5, 205), (5, 206), (3, 153), (3, 154), (3, 155), (3, 156), (1, 92), (3, 157), (3, 158), (3, 159), (3, 160), (5, 207), (5, 208)] (by first | exact rfl | decide +kernel)
set_option maxRecDepth 20000 in
theorem lin_r31 : ∀ w ∈ wsL_law_r31, w ∈ lw_tbl := mem_t [(5, 209), (5, 210), (5, 211), (5, 212), (5, 213), (5, 214), (3, 161), (3, 162), (3, 163), (3, 164), (3, 165), (3, 166), (3, 167), (3, 168), (5, 215), (5, 216), (5, 217), (5, 218), (3, 169), (3, 170), (3, 171), (3, 172), (3, 173), (3, 174)] (by first | exact rfl | decide +kernel)
set_option maxRecDepth 20000 in
theorem lin_r32 : ∀ w ∈ wsL_law_r32, w ∈ lw_tbl := mem_t [(3, 175), (3, 176), (5, 219), (5, 220), (5, 221), (5, 222), (3, 177), (3, 178), (3, 179), (3, 180), (3, 181), (3, 183), (0, 22), (3, 184), (3, 185), (3, 186), (3, 187), (3, 188), (3, 189), (3, 190), (3, 191), (3, 192), (3, 203), (3, 198)] (by first | exact rfl | decide +kernel)
set_option maxRecDepth 20000 in
theorem lin_r33 : ∀ w ∈ wsL_law_r33, w ∈ lw_tbl := mem_t [(3, 193), (3, 195), (0, 23), (3, 196), (1, 86), (1, 90), (3, 197), (3, 199), (3, 201), (0, 24), (3, 202), (3, 204), (3, 206), (0, 25), (3, 207), (1, 156), (3, 208), (3, 210), (0, 26), (3, 211), (1, 164), (1, 161), (3, 212), (3, 213)] (by first | exact rfl | decide +kernel)
set_option maxRecDepth 20000 in
theorem lin_r34 : ∀ w ∈ wsL_law_r34, w ∈ lw_tbl := mem_t [(3, 214), (3, 215), (3, 216), (3, 217), (3, 218), (3, 219), (3, 220), (3, 221), (3, 222), (3, 223), (3, 225), (3, 224), (3, 226), (3, 228), (0, 27), (3, 229), (3, 230), (3, 232), (0, 28), (3, 233), (5, 223), (5, 224), (5, 225), (5, 226)] (by first | exact rfl | decide +kernel)
set_option maxRecDepth 20000 in
theorem lin_r35 : ∀ w ∈ wsL_law_r35, w ∈ lw_tbl := mem_t [(5, 235), (5, 227), (5, 229), (0, 64), (5, 230), (5, 231), (5, 233), (0, 65), (5, 234), (5, 236), (5, 238), (0, 66), (5, 239), (6, 0), (6, 2), (0, 67), (6, 3), (6, 4), (6, 6), (0, 68), (6, 7), (3, 234), (3, 235), (3, 236)] (by first | exact rfl | decide +kernel)
set_option maxRecDepth 20000 in
theorem lin_r36 : ∀ w ∈ wsL_law_r36, w ∈ lw_tbl := mem_t [(3, 237), (6, 8), (6, 9), (6, 10), (6, 11), (3, 238), (3, 239), (4, 0), (4, 1), (4, 2), (4, 4), (0, 29), (4, 5), (4, 6), (4, 8), (0, 30), (4, 9), (6, 12), (6, 13), (6, 14), (6, 15), (6, 16), (6, 18), (0, 69)] (by first | exact rfl | decide +kernel)
set_option maxRecDepth 20000 in
theorem lin_r37 : ∀ w ∈ wsL_law_r37, w ∈ lw_tbl := mem_t [(6, 19), (4, 10), (4, 11), (4, 12), (4, 13), (4, 14), (4, 15), (4, 16), (4, 17), (1, 80), (4, 18), (4, 19), (4, 20), (4, 21), (4, 22), (4, 23), (1, 72), (4, 24), (4, 25), (4, 26), (4, 27), (4, 28), (4, 29), (4, 30)] (by first | exact rfl | decide +kernel)
set_option maxRecDepth 20000 in
theorem lin_r38 : ∀ w ∈ wsL_law_r38, w ∈ lw_tbl := mem_t [(4, 31), (4, 32), (4, 33), (4, 34), (4, 35), (4, 37), (0, 31), (4, 38), (6, 20), (6, 21), (6, 22), (6, 23), (6, 24), (6, 26), (0, 70), (6, 27), (6, 28), (6, 30), (0, 71), (6, 31), (6, 32), (6, 34), (0, 72), (6, 35)] (by first | exact rfl | decide +kernel)
set_option maxRecDepth 20000 in
theorem lin_r39 : ∀ w ∈ wsL_law_r39, w ∈ lw_tbl := mem_t [(4, 39), (4, 40), (4, 41), (4, 42), (1, 224), (4, 43), (4, 44), (4, 45), (4, 46), (4, 52), (4, 47), (4, 48), (4, 49), (4, 50), (4, 51), (6, 36), (6, 37), (6, 38), (6, 39), (6, 40), (6, 41), (6, 43), (0, 73), (6, 44)] (by first | exact rfl | decide +kernel)
set_option maxRecDepth 20000 in
theorem lin_r40 : ∀ w ∈ wsL_law_r40, w ∈ lw_tbl := mem_t [(6, 45), (6, 47), (0, 74), (6, 48), (4, 53), (4, 54), (4, 55), (4, 56), (1, 77), (4, 57), (4, 58), (4, 59), (4, 60), (6, 49), (6, 50), (6, 51), (6, 52), (4, 61), (4, 62), (4, 63), (4, 64), (6, 53), (6, 54), (6, 55)] (by first | exact rfl | decide +kernel)
set_option maxRecDepth 20000 in
theorem lin_r41 : ∀ w ∈ wsL_law_r41, w ∈ lw_tbl := mem_t [(6, 56), (4, 65), (4, 66), (4, 67), (4, 68), (6, 57), (6, 58), (6, 59), (6, 60), (4, 69), (4, 70), (4, 71), (4, 72), (4, 73), (4, 74), (4, 75), (4, 76), (4, 77), (4, 78), (4, 79), (4, 80), (4, 81), (6, 61), (6, 62)] (by first | exact rfl | decide +kernel)
set_option maxRecDepth 20000 in
theorem lin_r42 : ∀ w ∈ wsL_law_r42, w ∈ lw_tbl := mem_t [(6, 63), (6, 64), (6, 65), (6, 67), (0, 75), (6, 68), (4, 82), (4, 83), (4, 84), (4, 85), (4, 86), (4, 87), (4, 88), (4, 89), (4, 91), (4, 90), (6, 69), (6, 70), (6, 71), (6, 72), (6, 73), (6, 74), (6, 75), (4, 93)] (by first | exact rfl | decide +kernel)
set_option maxRecDepth 20000 in
theorem lin_r43 : ∀ w ∈ wsL_law_r43, w ∈ lw_tbl := mem_t [(4, 94), (4, 95), (4, 96), (4, 97), (4, 98), (4, 99), (4, 100), (4, 101), (4, 103), (0, 32), (4, 104), (4, 105), (4, 107), (4, 109), (4, 111), (0, 33), (4, 112), (4, 113), (4, 114), (4, 115), (4, 116), (4, 117), (4, 118), (6, 76)] (by first | exact rfl | decide +kernel)
set_option maxRecDepth 20000 in
theorem lin_r44 : ∀ w ∈ wsL_law_r44, w ∈ lw_tbl := mem_t [(6, 77), (6, 78), (6, 79), (4, 178), (6, 80), (6, 82), (0, 76), (6, 83), (6, 84), (6, 86), (0, 77), (6, 87), (6, 88), (6, 90), (0, 78), (6, 91), (6, 92), (6, 94), (0, 79), (6, 95), (6, 96), (6, 98), (0, 80), (6, 99)] (by first | exact rfl | decide +kernel)
set_option maxRecDepth 20000 in
theorem lin_r45 : ∀ w ∈ wsL_law_r45, w ∈ lw_tbl := mem_t [(4, 119), (4, 120), (4, 121), (4, 122), (2, 8), (2, 6), (6, 100), (6, 101), (6, 102), (6, 103), (4, 123), (4, 124), (4, 125), (4, 126), (1, 67), (1, 70), (4, 127), (4, 129), (0, 34), (4, 130), (4, 131), (4, 132), (4, 133), (4, 134)] (by first | exact rfl | decide +kernel)
set_option maxRecDepth 20000 in
theorem lin_r46 : ∀ w ∈ wsL_law_r46, w ∈ lw_tbl := mem_t [(4, 135), (4, 136), (4, 137), (4, 138), (4, 139), (6, 104), (6, 105), (6, 106), (6, 107), (6, 108), (6, 110), (0, 81), (6, 111), (4, 140), (4, 141), (4, 142), (4, 143), (6, 112), (6, 113), (6, 114), (6, 115)] (by first | exact rfl | decide +kernel)
set_option maxRecDepth 20000 in
theorem lin_X0 : ∀ w ∈ wsX00, w ∈ lw_tbl := mem_t [(2, 9), (2, 11), (2, 13)] (by first | exact rfl | decide +kernel)
set_option maxRecDepth 20000 in
theorem lin_X1 : ∀ w ∈ wsX10, w ∈ lw_tbl := mem_t [(1, 102), (1, 104), (1, 106), (1, 108), (1, 110), (1, 112), (1, 114), (1, 116), (1, 118), (1, 120), (1, 122), (1, 124)] (by first | exact rfl | decide +kernel)
set_option maxRecDepth 20000 in
theorem lin_X2 : ∀ w ∈ wsX20, w ∈ lw_tbl := mem_t [(1, 227), (1, 229), (1, 231), (1, 233), (1, 235)] (by first | exact rfl | decide +kernel)
set_option maxRecDepth 20000 in
theorem lin_X3 : ∀ w ∈ wsX30, w ∈ lw_tbl := mem_t [(1, 139), (1, 141), (1, 143), (1, 145)] (by first | exact rfl | decide +kernel)
set_option maxRecDepth 20000 in
theorem lin_X4 : ∀ w ∈ wsX40, w ∈ lw_tbl := mem_t [(2, 27), (2, 29), (2, 31)] (by first | exact rfl | decide +kernel)
set_option maxRecDepth 20000 in
theorem lin_X5 : ∀ w ∈ wsX50, w ∈ lw_tbl := mem_t [(1, 45), (1, 47), (1, 49), (1, 51), (1, 53), (1, 55)] (by first | exact rfl | decide +kernel)
set_option maxRecDepth 20000 in
theorem lin_X6 : ∀ w ∈ wsX60, w ∈ lw_tbl := mem_t [(1, 166), (1, 168), (1, 170), (1, 172)] (by first | exact rfl | decide +kernel)
set_option maxRecDepth 20000 in
theorem lin_X7 : ∀ w ∈ wsX70, w ∈ lw_tbl := mem_t [(1, 192), (1, 194), (1, 196), (1, 198), (1, 200), (1, 202), (1, 204), (1, 206), (1, 208), (1, 210), (1, 212)] (by first | exact rfl | decide +kernel)
set_option maxRecDepth 20000 in
theorem lin_X8 : ∀ w ∈ wsX80, w ∈ lw_tbl := mem_t [(2, 47), (2, 49), (2, 51), (2, 53), (2, 55), (2, 57), (2, 59), (2, 61), (2, 63), (2, 65), (2, 67), (2, 69), (2, 71)] (by first | exact rfl | decide +kernel)
set_option maxRecDepth 20000 in
theorem lin_X9 : ∀ w ∈ wsX90, w ∈ lw_tbl := mem_t [(4, 179), (4, 181), (4, 183), (4, 185), (4, 187), (4, 189), (4, 191), (4, 193), (4, 195), (4, 197), (4, 199), (4, 201), (4, 203), (4, 205), (4, 207), (4, 209), (4, 211), (4, 213), (4, 215), (4, 217), (4, 219), (4, 221), (4, 223), (4, 225), (4, 227), (4, 229), (4, 231), (4, 233), (4, 235)] (by first | exact rfl | decide +kernel)
theorem wsL_law_in : ∀ w ∈ wsL_law, w ∈ lw_tbl := (List.forall_mem_append.mpr ⟨(List.forall_mem_append.mpr ⟨(List.forall_mem_append.mpr ⟨(List.forall_mem_append.mpr ⟨(List.forall_mem_append.mpr ⟨(List.forall_mem_append.mpr ⟨(List.forall_mem_append.mpr ⟨(List.forall_mem_append.mpr ⟨(List.forall_mem_append.mpr ⟨(List.forall_mem_append.mpr ⟨(List.forall_mem_append.mpr ⟨(List.forall_mem_append.mpr ⟨lin_r1, (List.forall_mem_append.mpr ⟨lin_r2, (List.forall_mem_append.mpr ⟨lin_r3, (List.forall_mem_append.mpr ⟨lin_r4, (List.forall_mem_append.mpr ⟨lin_r5, (List.forall_mem_append.mpr ⟨lin_r6, (List.forall_mem_append.mpr ⟨lin_r7, (List.forall_mem_append.mpr ⟨lin_r8, (List.forall_mem_append.mpr ⟨lin_r9, (List.forall_mem_append.mpr ⟨lin_r10, (List.forall_mem_append.mpr ⟨lin_r11, (List.forall_mem_append.mpr ⟨lin_r12, (List.forall_mem_append.mpr ⟨lin_r13, (List.forall_mem_append.mpr ⟨lin_r14, (List.forall_mem_append.mpr ⟨lin_r15, (List.forall_mem_append.mpr ⟨lin_r16, (List.forall_mem_append.mpr ⟨lin_r17, (List.forall_mem_append.mpr ⟨lin_r18, (List.forall_mem_append.mpr ⟨lin_r19, (List.forall_mem_append.mpr ⟨lin_r20, (List.forall_mem_append.mpr ⟨lin_r21, (List.forall_mem_append.mpr ⟨lin_r22, (List.forall_mem_append.mpr ⟨lin_r23, (List.forall_mem_append.mpr ⟨lin_r24, (List.forall_mem_append.mpr ⟨lin_r25, (List.forall_mem_append.mpr ⟨lin_r26, (List.forall_mem_append.mpr ⟨lin_r27, (List.forall_mem_append.mpr ⟨lin_r28, (List.forall_mem_append.mpr ⟨lin_r29, (List.forall_mem_append.mpr ⟨lin_r30, (List.forall_mem_append.mpr ⟨lin_r31, (List.forall_mem_append.mpr ⟨lin_r32, (List.forall_mem_append.mpr ⟨lin_r33, (List.forall_mem_append.mpr ⟨lin_r34, (List.forall_mem_append.mpr ⟨lin_r35, (List.forall_mem_append.mpr ⟨lin_r36, (List.forall_mem_append.mpr ⟨lin_r37, (List.forall_mem_append.mpr ⟨lin_r38, (List.forall_mem_append.mpr ⟨lin_r39, (List.forall_mem_append.mpr ⟨lin_r40, (List.forall_mem_append.mpr ⟨lin_r41, (List.forall_mem_append.mpr ⟨lin_r42, (List.forall_mem_append.mpr ⟨lin_r43, (List.forall_mem_append.mpr ⟨lin_r44, (List.forall_mem_append.mpr ⟨lin_r45, lin_r46⟩)⟩)⟩)⟩)⟩)⟩)⟩)⟩)⟩)⟩)⟩)⟩)⟩)⟩)⟩)⟩)⟩)⟩)⟩)⟩)⟩)⟩)⟩)⟩)⟩)⟩)⟩)⟩)⟩)⟩)⟩)⟩)⟩)⟩)⟩)⟩)⟩)⟩)⟩)⟩)⟩)⟩)⟩)⟩)⟩), lin_X8⟩), lin_X9⟩), lin_X5⟩), lin_X1⟩), lin_X3⟩), lin_X6⟩), lin_X7⟩), lin_X2⟩), lin_X0⟩), lin_X4⟩), fun _ h => absurd h List.not_mem_nil⟩)
theorem inlX0 : ∀ w ∈ wsX00, w ∈ wsL_law := fun _ h => List.mem_append_left _ (List.mem_append_left _ (List.mem_append_right _ h))
theorem inX0 : ∀ w ∈ wsX00, w ∈ lw_tbl := fun w h => wsL_law_in w (inlX0 w h)
theorem inlX1 : ∀ w ∈ wsX10, w ∈ wsL_law := fun _ h => List.mem_append_left _ (List.mem_append_left _ (List.mem_append_left _ (List.mem_append_left _ (List.mem_append_left _ (List.mem_append_left _ (List.mem_append_left _ (List.mem_append_right _ h)))))))
theorem inX1 : ∀ w ∈ wsX10, w ∈ lw_tbl := fun w h => wsL_law_in w (inlX1 w h)
theorem inlX2 : ∀ w ∈ wsX20, w ∈ wsL_law := fun _ h => List.mem_append_left _ (List.mem_append_left _ (List.mem_append_left _ (List.mem_append_right _ h)))
theorem inX2 : ∀ w ∈ wsX20, w ∈ lw_tbl := fun w h => wsL_law_in w (inlX2 w h)
theorem inlX3 : ∀ w ∈ wsX30, w ∈ wsL_law := fun _ h => List.mem_append_left _ (List.mem_append_left _ (List.mem_append_left _ (List.mem_append_left _ (List.mem_append_left _ (List.mem_append_left _ (List.mem_append_right _ h))))))
theorem inX3 : ∀ w ∈ wsX30, w ∈ lw_tbl := fun w h => wsL_law_in w (inlX3 w h)
theorem inlX4 : ∀ w ∈ wsX40, w ∈ wsL_law := fun _ h => List.mem_append_left _ (List.mem_append_right _ h)
theorem inX4 : ∀ w ∈ wsX40, w ∈ lw_tbl := fun w h => wsL_law_in w (inlX4 w h)
theorem inlX5 : ∀ w ∈ wsX50, w ∈ wsL_law := fun _ h => List.mem_append_left _ (List.mem_append_left _ (List.mem_append_left _ (List.mem_append_left _ (List.mem_append_left _ (List.mem_append_left _ (List.mem_append_left _ (List.mem_append_left _ (List.mem_append_right _ h))))))))
theorem inX5 : ∀ w ∈ wsX50, w ∈ lw_tbl := fun w h => wsL_law_in w (inlX5 w h)
theorem inlX6 : ∀ w ∈ wsX60, w ∈ wsL_law := fun _ h => List.mem_append_left _ (List.mem_append_left _ (List.mem_append_left _ (List.mem_append_left _ (List.mem_append_left _ (List.mem_append_right _ h)))))
theorem inX6 : ∀ w ∈ wsX60, w ∈ lw_tbl := fun w h => wsL_law_in w (inlX6 w h)
theorem inlX7 : ∀ w ∈ wsX70, w ∈ wsL_law := fun _ h => List.mem_append_left _ (List.mem_append_left _ (List.mem_append_left _ (List.mem_append_left _ (List.mem_append_right _ h))))
theorem inX7 : ∀ w ∈ wsX70, w ∈ lw_tbl := fun w h => wsL_law_in w (inlX7 w h)
theorem inlX8 : ∀ w ∈ wsX80, w ∈ wsL_law := fun _ h => List.mem_append_left _ (List.mem_append_left _ (List.mem_append_left _ (List.mem_append_left _ (List.mem_append_left _ (List.mem_append_left _ (List.mem_append_left _ (List.mem_append_left _ (List.mem_append_left _ (List.mem_append_left _ (List.mem_append_right _ h))))))))))
theorem inX8 : ∀ w ∈ wsX80, w ∈ lw_tbl := fun w h => wsL_law_in w (inlX8 w h)
theorem inlX9 : ∀ w ∈ wsX90, w ∈ wsL_law := fun _ h => List.mem_append_left _ (List.mem_append_left _ (List.mem_append_left _ (List.mem_append_left _ (List.mem_append_left _ (List.mem_append_left _ (List.mem_append_left _ (List.mem_append_left _ (List.mem_append_left _ (List.mem_append_right _ h)))))))))
theorem inX9 : ∀ w ∈ wsX90, w ∈ lw_tbl := fun w h => wsL_law_in w (inlX9 w h)
