theorem dL_law_1040 : decode cL_law 1040 = .ok (.iconst 1, 1) := by decide +kernel
theorem dL_law_1041 : decode cL_law 1041 = .ok (.ireturn, 1) := by decide +kernel
theorem mem_ch {a b : List Cond} {L : List (List Cond)} (h : ∀ c ∈ L, ∀ w ∈ c, w ∈ b) : ∀ c ∈ a :: L, ∀ w ∈ c, w ∈ a ++ b := by
  intro c hc w hw
  rcases List.mem_cons.mp hc with rfl | hc
  · exact List.mem_append_left _ hw
  · exact List.mem_append_right _ (h c hc w hw)
theorem mem_c1 {a : List Cond} : ∀ c ∈ [a], ∀ w ∈ c, w ∈ a := by
  intro c hc w hw
  rcases List.mem_cons.mp hc with rfl | hc
  · exact hw
  · exact absurd hc List.not_mem_nil
noncomputable def lwL : List (List Cond) := [wsL_law_r1, wsL_law_r2, wsL_law_r3, wsL_law_r4, wsL_law_r5, wsL_law_r6, wsL_law_r7, wsL_law_r8, wsL_law_r9, wsL_law_r10, wsL_law_r11, wsL_law_r12, wsL_law_r13, wsL_law_r14, wsL_law_r15, wsL_law_r16, wsL_law_r17, wsL_law_r18, wsL_law_r19, wsL_law_r20, wsL_law_r21, wsL_law_r22, wsL_law_r23, wsL_law_r24, wsL_law_r25, wsL_law_r26, wsL_law_r27, wsL_law_r28, wsL_law_r29, wsL_law_r30, wsL_law_r31, wsL_law_r32, wsL_law_r33, wsL_law_r34, wsL_law_r35, wsL_law_r36, wsL_law_r37, wsL_law_r38, wsL_law_r39, wsL_law_r40, wsL_law_r41, wsL_law_r42, wsL_law_r43, wsL_law_r44, wsL_law_r45, wsL_law_r46]
set_option maxRecDepth 20000 in
theorem lwL_in : ∀ c ∈ lwL, ∀ w ∈ c, w ∈ wsL_law := fun c hc w hw => List.mem_append_left _ (List.mem_append_left _ (List.mem_append_left _ (List.mem_append_left _ (List.mem_append_left _ (List.mem_append_left _ (List.mem_append_left _ (List.mem_append_left _ (List.mem_append_left _ (List.mem_append_left _ (List.mem_append_left _ ((mem_ch (mem_ch (mem_ch (mem_ch (mem_ch (mem_ch (mem_ch (mem_ch (mem_ch (mem_ch (mem_ch (mem_ch (mem_ch (mem_ch (mem_ch (mem_ch (mem_ch (mem_ch (mem_ch (mem_ch (mem_ch (mem_ch (mem_ch (mem_ch (mem_ch (mem_ch (mem_ch (mem_ch (mem_ch (mem_ch (mem_ch (mem_ch (mem_ch (mem_ch (mem_ch (mem_ch (mem_ch (mem_ch (mem_ch (mem_ch (mem_ch (mem_ch (mem_ch (mem_ch (mem_ch (mem_c1))))))))))))))))))))))))))))))))))))))))))))) c hc w hw))))))))))))
set_option maxRecDepth 20000 in
theorem lw_good : wsL_law.all goodWord = true := by decide +kernel
theorem mem_2 {ws : List Cond} (ps : List (Nat × Nat)) (hp : ws = ps.filterMap (fun q => (lwL.getD q.1 [])[q.2]?)) : GoodIn wsL_law ws := by
  intro w hw
  have hm : w ∈ wsL_law := by
    rw [hp] at hw
    obtain ⟨q, -, hq⟩ := List.mem_filterMap.mp hw
    have h1 : w ∈ lwL.getD q.1 [] := List.mem_of_getElem? hq
    rw [List.getD_eq_getElem?_getD] at h1
    cases hk : lwL[q.1]? with
    | none => rw [hk] at h1; exact absurd h1 List.not_mem_nil
    | some c => rw [hk] at h1; exact lwL_in c (List.mem_of_getElem? hk) w h1
  exact ⟨hm, good_of_word (List.all_eq_true.mp lw_good w hm)⟩
theorem glX8 : GoodIn wsL_law wsX80 := fun w h => ⟨inlX8 w h, good_of_word (List.all_eq_true.mp lw_good w (inlX8 w h))⟩
theorem glX9 : GoodIn wsL_law wsX90 := fun w h => ⟨inlX9 w h, good_of_word (List.all_eq_true.mp lw_good w (inlX9 w h))⟩
theorem glX5 : GoodIn wsL_law wsX50 := fun w h => ⟨inlX5 w h, good_of_word (List.all_eq_true.mp lw_good w (inlX5 w h))⟩
theorem glX1 : GoodIn wsL_law wsX10 := fun w h => ⟨inlX1 w h, good_of_word (List.all_eq_true.mp lw_good w (inlX1 w h))⟩
theorem glX3 : GoodIn wsL_law wsX30 := fun w h => ⟨inlX3 w h, good_of_word (List.all_eq_true.mp lw_good w (inlX3 w h))⟩
theorem glX6 : GoodIn wsL_law wsX60 := fun w h => ⟨inlX6 w h, good_of_word (List.all_eq_true.mp lw_good w (inlX6 w h))⟩
theorem glX7 : GoodIn wsL_law wsX70 := fun w h => ⟨inlX7 w h, good_of_word (List.all_eq_true.mp lw_good w (inlX7 w h))⟩
theorem glX2 : GoodIn wsL_law wsX20 := fun w h => ⟨inlX2 w h, good_of_word (List.all_eq_true.mp lw_good w (inlX2 w h))⟩
theorem glX0 : GoodIn wsL_law wsX00 := fun w h => ⟨inlX0 w h, good_of_word (List.all_eq_true.mp lw_good w (inlX0 w h))⟩
theorem glX4 : GoodIn wsL_law wsX40 := fun w h => ⟨inlX4 w h, good_of_word (List.all_eq_true.mp lw_good w (inlX4 w h))⟩
/-! THE CLAIM OUT OF ONE WALK OF THE LAW'S BODY. Your part is whole_start (and what it stands on); all else here is the same for every law, but numbers. -/
def R_law : String := "PricedLooksLaw"
def lw_P (b : Addr) (xs : List Int32) (args : Array Value) (s : State) : Prop := args = #[.ref b] ∧ s.IntsAt b xs ∧ xs.length ≤ 3072 ∧ (Jvm.Cond.and given_1 narrow_1).before args s = true
def lw_Q (_ : Array Value) (s : State) (o : Outcome) (t : State) : Prop := o = .returned (some (.int 1)) ∧ Framed s o t [] 600000 7302250
def lw_Z (below : List Frame) (a : Array Value) (s : State) : State → Prop := fun t => ∃ o, t.status = .running ∧ Ended t below o ∧ lw_Q a s o t
/-- the law's own end, with 1 on the stack, nothing written that was there before, its room as the claim has it -/
theorem lw_ret {p : Program} {l : Launch} {e : Env} {s : State} {m : MethodId} {below : List Frame} {meth : Method} {c : Code} {b : Nat} (hx : p.tables.exec = Jvm.exec) (hb : c.code = code) (hr : meth.sig.returnType = ret) (hlocks : meth.locks = false) {pc : Nat} {H : Heap} {ls : Array Slot} (hdg : decode code pc = .ok (.ireturn, 1)) : W p l e room_1 s m #[Value.ref b] below meth c H [] 600000 7302250 (lw_Z below #[Value.ref b] s) (F0 m pc ls [.int 1]) := by
  intro T hT X
  obtain ⟨fs, hret, hrun, hended, hW, hframe⟩ := X.leave (v := some (.int 1)) (hlocks := hlocks) (fun h => by rw [hr] at h; cases h)
  have hmeth' : T.vm.method? m = some meth := X.method'
  refine ⟨T.setFrames fs, ?_, .returned (some (.int 1)), hrun, hended, rfl, ⟨_, rfl⟩, hW, hframe⟩
  jvm_step X.here [X.here.top, hx, hb, hdg, hmeth', hr, ret, narrow_b1]
  (try refine ⟨rfl, ?_⟩); (try refine ⟨rfl, ?_⟩)
  first | (intro acts; rw [hret _ acts rfl rfl rfl]) | rw [hret _ _ rfl rfl rfl]
  exact Steps.refl _
/-- what holds at the law's entry: the machine, the code, the tables' words (any of lw_tbl by 'hts w (by decide +kernel)'), the script of L ints xs at the cell b, what the Statement gives of the start (any of its parts by flat_of_before) -/
def lw_At (p : Program) (s : State) (m : MethodId) (meth : Method) (c : Code) (b L : Nat) (xs : Nat → Int32) : Prop :=
  p.tables.exec = Jvm.exec ∧ c.code = code ∧ meth.sig.returnType = ret ∧ c.maxLocals = 4 ∧ s.vm.findClass R_law = some m.cls ∧ (∀ w ∈ lw_tbl, w.before #[Value.ref b] s = true) ∧ va_X b L xs s s.heap ∧ b < s.heap.size ∧ meth.locks = false ∧ (Jvm.Cond.and given_1 narrow_1).before #[Value.ref b] s = true

def lC (p : Program) (s : State) (m : MethodId) (meth : Method) (c : Code) (b L : Nat) (sc : Nat → Int32) (A : Nat → Prop) : Prop :=
  CallFix p m c code 4 s #[Value.ref b] wsL_law RL ∧ meth.sig.returnType = ret ∧ meth.locks = false ∧ va_X b L sc s s.heap ∧ b < s.heap.size ∧ (∀ q, s.heap.size ≤ q → A q) ∧ (∀ q, A q → s.heap.size ≤ q)
set_option maxHeartbeats 4000000 in
set_option maxRecDepth 100000 in
/-- the end of the law, behind its last turn -/
theorem law_end {p : Program} {l : Launch} {e : Env} {s : State} {m : MethodId} {below : List Frame} {meth : Method} {c : Code} {b : Nat} {A : Nat → Prop} {H : Heap} {locs : List Loc} {cells slots : Nat} {ls : Array Slot} (S : CallFix p m c code 4 s #[Value.ref b] wsL_law RL) (hr : meth.sig.returnType = ret) (hk : meth.locks = false) (hAf : ∀ q, A q → s.heap.size ≤ q) (hS : va_S A s.heap H locs) (h1 : cells ≤ 600000) (h2 : slots ≤ 7302250) :
    W p l e room_1 s m #[Value.ref b] below meth c H locs cells slots (lw_Z below #[Value.ref b] s) (F0 m 1040 ls []) := by
  refine lv_iconst (v := 1) S.1 S.2.1 dL_law_1040 (by decide) ?_
  refine va_forget (fun q hq => hAf _ (hS.2.2 q hq)) ?_
  refine W.widen (k := 600000) (n := 7302250) h1 h2 ?_
  exact lw_ret S.1 S.2.1 hr hk dL_law_1041
