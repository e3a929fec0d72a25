/-! the words of this claim's walk: what holds of the tables at every state, contracts with a world of cells before and behind, calls and returns in these words -/
abbrev tyW (cI cZ cC cS : ClassId) : List (ClassId × FieldType) := [(cI, .int), (cZ, .boolean), (cC, .object RX1), (cS, .object RX4)]
def eastL : List Int32 := [0, 1, 1, 1, 0, -1, -1, -1]
def southL : List Int32 := [-1, -1, 0, 1, 1, 1, 0, -1]
def widerL : List Int32 := [-1, 0, 0, 2, 2, 3]
def sizeL : List Int32 := [10, 14, 11, 12, 11, 13]
def markL : List Int32 := [20, 20, 20, 21, 22, 23]
def wordN : List Nat := [3, 5, 4, 6, 5, 6]
def wordB : List (List Int32) := [[114, 111, 119], [112, 114, 105, 99, 101], [102, 114, 101, 101], [112, 101, 114, 115, 111, 110], [99, 104, 105, 108, 100], [103, 117, 105, 100, 101, 100]]
def lF (l : List Int32) : Nat → Value := fun j => .int (l.getD j 0)
/-- what holds of the tables at every state; sq: where the constants lie (0 to 4 rows, 5 the formatter, 10 to 15 texts, 20 to 25 their bytes) -/
def kW (D : va_G) (ty : List (ClassId × FieldType)) (sq : Nat → Nat) (U : State) : Prop := va_K D vwCl ty U ∧ va_AO RX1 U ∧ va_AO RX4 U ∧ va_Nw (.methodLinkNest RX8 17 yX5_init RX8) U ∧ va_Nw (.methodLinkNest RX8 24 yX1_init RX8) U ∧ va_Nw (.methodLinkNest RX8 47 yX6_init RX8) U ∧ va_Nw (.methodLinkNest RX8 89 yX4_init RX8) U ∧ va_Nw (.fieldLinkNest RX6 32 RX8 "EAST" "[I" RX8) U ∧ va_Nw (.fieldLinkNest RX6 35 RX8 "SOUTH" "[I" RX8) U ∧ va_Nw (.fieldLinkNest RX1 69 RX8 "EAST" "[I" RX8) U ∧ va_Nw (.fieldLinkNest RX1 72 RX8 "SOUTH" "[I" RX8) U ∧ vk_R RX3 36 "row" (sq 10) U ∧ vk_R RX3 99 "price" (sq 11) U ∧ vk_R RX3 107 "free" (sq 12) U ∧ vk_R RX3 117 "person" (sq 13) U ∧ vk_R RX3 125 "child" (sq 14) U ∧ vk_R RX3 127 "guided" (sq 15) U
theorem kW.warm {D : va_G} {ty : List (ClassId × FieldType)} {sq : Nat → Nat} {s U : State} (hW : s.WarmedH U.vm) (h : kW D ty sq s) : kW D ty sq U := by
  obtain ⟨h1, h2, h3, h4, h5, h6, h7, g1, g2, g3, g4, k1, k2, k3, k4, k5, k6⟩ := h
  exact ⟨va_K.moved hW.alike h1, va_AO.moved hW.alike h2, va_AO.moved hW.alike h3, va_Nw.warmM hW h4, va_Nw.warmM hW h5, va_Nw.warmM hW h6, va_Nw.warmM hW h7, va_Nw.warmF hW g1, va_Nw.warmF hW g2, va_Nw.warmF hW g3, va_Nw.warmF hW g4, vk_R.warm hW k1, vk_R.warm hW k2, vk_R.warm hW k3, vk_R.warm hW k4, vk_R.warm hW k5, vk_R.warm hW k6⟩
theorem kW.same {D : va_G} {ty : List (ClassId × FieldType)} {sq : Nat → Nat} {u U : State} (hv : U.vm = u.vm) (h : kW D ty sq u) : kW D ty sq U := by
  obtain ⟨h1, h2, h3, h4, h5, h6, h7, g1, g2, g3, g4, k1, k2, k3, k4, k5, k6⟩ := h
  have ha : u.vm.Alike U.vm := by rw [hv]; exact Vm.Alike.refl u.vm
  exact ⟨va_K.moved ha h1, va_AO.moved ha h2, va_AO.moved ha h3, va_Nw.same rfl hv.symm h4, va_Nw.same rfl hv.symm h5, va_Nw.same rfl hv.symm h6, va_Nw.same rfl hv.symm h7, va_Nw.same rfl hv.symm g1, va_Nw.same rfl hv.symm g2, va_Nw.same rfl hv.symm g3, va_Nw.same rfl hv.symm g4, vk_R.same hv k1, vk_R.same hv k2, vk_R.same hv k3, vk_R.same hv k4, vk_R.same hv k5, vk_R.same hv k6⟩
/-- statics and constants that nobody writes -/
def sT (sq : Nat → Nat) (A : Nat → Prop) (U : State) (H : Heap) : Prop :=
  (va_Z RX8 "EAST" "[I" (.ref (sq 0)) A U H ∧ va_T .int (sq 0) 8 (lF eastL) A U H) ∧ (va_Z RX8 "SOUTH" "[I" (.ref (sq 1)) A U H ∧ va_T .int (sq 1) 8 (lF southL) A U H) ∧ (va_Z RX0 "WIDER" "[I" (.ref (sq 2)) A U H ∧ va_T .int (sq 2) 6 (lF widerL) A U H) ∧ (va_Z RX0 "SIZE_BODY" "[I" (.ref (sq 3)) A U H ∧ va_T .int (sq 3) 6 (lF sizeL) A U H) ∧ (va_Z RX0 "MARK_BODY" "[I" (.ref (sq 4)) A U H ∧ va_T .int (sq 4) 6 (lF markL) A U H) ∧
  va_Z "java/lang/String" "COMPACT_STRINGS" "Z" (.int 1) A U H ∧ va_Zq "jdk/internal/util/Preconditions" "SIOOBE_FORMATTER" "Ljava/util/function/BiFunction;" A U H ∧ vk_S 6 wordN wordB (fun i => sq (10 + i)) (fun i => sq (20 + i)) A U H
theorem sT.to {sq : Nat → Nat} {A B : Nat → Prop} {u U : State} {H H1 : Heap} (ha : u.vm.Alike U.vm) (hq : ∀ a : Nat, a < H.size → ¬ A a → H1[a]? = H[a]?) (hAB : ∀ q, B q → A q) (h : sT sq A u H) : sT sq B U H1 := by
  obtain ⟨⟨a1, b1⟩, ⟨a2, b2⟩, ⟨a3, b3⟩, ⟨a4, b4⟩, ⟨a5, b5⟩, c1, c2, d1⟩ := h
  exact ⟨⟨((a1.moved ha).kept hq).narrow hAB, ((b1.moved ha).kept hq).narrow hAB⟩, ⟨((a2.moved ha).kept hq).narrow hAB, ((b2.moved ha).kept hq).narrow hAB⟩, ⟨((a3.moved ha).kept hq).narrow hAB, ((b3.moved ha).kept hq).narrow hAB⟩, ⟨((a4.moved ha).kept hq).narrow hAB, ((b4.moved ha).kept hq).narrow hAB⟩, ⟨((a5.moved ha).kept hq).narrow hAB, ((b5.moved ha).kept hq).narrow hAB⟩, ((c1.moved ha).kept hq).narrow hAB, ((c2.moved ha).kept hq).narrow hAB, ((d1.moved ha).kept hq).narrow hAB⟩
def pC (D : va_G) (ty : List (ClassId × FieldType)) (sq : Nat → Nat) (ws : va_W) (sz : Nat) (U : State) : Prop := U.heap.size = sz ∧ va_P D vwCl ws U.heap ∧ kW D ty sq U ∧ va_D (fun _ => True) ws ∧ sT sq (va_A ws sz) U U.heap
def wD (D : va_G) (A : Nat → Prop) (ws : va_W) (t : State) : Prop := va_P D vwCl ws t.heap ∧ va_D A ws
abbrev rmW (fr lo mc ms : Nat) : Room := { frames := fr, cells := mc, slots := ms, locals := lo }
abbrev mI (l : Launch) (y : MethodName) (wd : List Cond) (fr lo : Nat) (D : va_G) (ty : List (ClassId × FieldType)) (sq : Nat → Nat) (ws : va_W) (sz : Nat) (av : List Value) (post : Int32 → va_W → Prop) : Prop :=
  Met l y wd (rmW fr lo 0 0) (va_Pc av (pC D ty sq ws sz)) (va_Qi post (wD D (va_A ws sz)) (va_A ws sz)) 0 0 (va_A ws sz)
abbrev mL (l : Launch) (y : MethodName) (wd : List Cond) (fr lo : Nat) (D : va_G) (ty : List (ClassId × FieldType)) (sq : Nat → Nat) (ws : va_W) (sz : Nat) (av : List Value) (post : Int64 → va_W → Prop) : Prop :=
  Met l y wd (rmW fr lo 0 0) (va_Pc av (pC D ty sq ws sz)) (va_Ql post (wD D (va_A ws sz)) (va_A ws sz)) 0 0 (va_A ws sz)
abbrev mV (l : Launch) (y : MethodName) (wd : List Cond) (fr lo mc ms : Nat) (D : va_G) (ty : List (ClassId × FieldType)) (sq : Nat → Nat) (ws : va_W) (sz : Nat) (av : List Value) (post : va_W → Prop) : Prop :=
  Met l y wd (rmW fr lo mc ms) (va_Pc av (pC D ty sq ws sz)) (va_Qv post (wD D (va_A ws sz)) (va_A ws sz)) mc ms (va_A ws sz)
section BE
variable {l : Launch} {y : MethodName} {wd wd' : List Cond} {fr lo mc ms : Nat} {D : va_G} {ty : List (ClassId × FieldType)} {sq : Nat → Nat} {ws : va_W} {sz : Nat} {av : List Value} {cc : ByteArray} {maxL : Nat} {ret : Option FieldType}
/-- what a walk of a method has at its entry -/
def bX (p : Program) (s : State) (m : MethodId) (meth : Method) (c : Code) (cc : ByteArray) (maxL : Nat) (wd : List Cond) (y : MethodName) (ret : Option FieldType) (av : List Value) : Prop :=
  CallFix p m c cc maxL s av.toArray wd y.cls ∧ meth.sig.returnType = ret ∧ meth.locks = false ∧ meth.name = y.name
theorem b_met {Qc : (Nat → Prop) → Array Value → State → Outcome → State → Prop} (hy : plainName y.cls = true) (hw : wd = Cond.code y cc maxL ret :: wd') (hlen : (lg_sl av).length ≤ maxL)
    (k : ∀ (p : Program) (e : Env) (s : State) (m : MethodId) (below : List Frame) (meth : Method) (c : Code) (ls : Array Slot) (A : Nat → Prop) (H : Heap), bX p s m meth c cc maxL wd y ret av → sz = H.size → va_P D vwCl ws H → kW D ty sq s → sT sq A s s.heap → va_D A ws → (∀ q, s.heap.size ≤ q → A q) → va_S A s.heap H [] → lv_has ls maxL (lv_args 0 av) →
      W p l e (rmW fr lo mc ms) s m av.toArray below meth c H [] 0 0 (MQ below (Qc A) av.toArray s mc ms A) (F0 m 0 ls [])) :
    Met l y wd (rmW fr lo mc ms) (va_Pc av (pC D ty sq ws sz)) (Qc (va_A ws sz)) mc ms (va_A ws sz) := by
  refine Met.ofW (cc := cc) (maxL := maxL) (ret := ret) hy hw ?_
  intro p e s m args below meth c s₁ B hml hv
  obtain ⟨rfl, hsz, hP, hK, hD0, hT⟩ := hv
  have hts := atoms_spec (ws := wd) B.pre
  have hown : s.vm.findClass y.cls = some m.cls := findClass_of_methodNamed B.named
  have hin : meth.name = y.name := (name_of_methodNamed B.named B.method).1
  subst hsz
  have hl := lv_entry av (n := maxL) hlen
  rw [lg_entry_eq]
  exact k p e s m below meth c _ (va_A ws s.heap.size) s.heap ⟨⟨B.exec, B.bytes, hml, hown, hts⟩, B.returns, B.notSynchronized, hin⟩ rfl hP hK hT hD0.self (fun q h => Or.inr h) va_S.rf hl
theorem b_metI {post : Int32 → va_W → Prop} (hy : plainName y.cls = true) (hw : wd = Cond.code y cc maxL ret :: wd') (hlen : (lg_sl av).length ≤ maxL)
    (k : ∀ (p : Program) (e : Env) (s : State) (m : MethodId) (below : List Frame) (meth : Method) (c : Code) (ls : Array Slot) (A : Nat → Prop) (H : Heap), bX p s m meth c cc maxL wd y ret av → sz = H.size → va_P D vwCl ws H → kW D ty sq s → sT sq A s s.heap → va_D A ws → (∀ q, s.heap.size ≤ q → A q) → va_S A s.heap H [] → lv_has ls maxL (lv_args 0 av) →
      W p l e (rmW fr lo 0 0) s m av.toArray below meth c H [] 0 0 (MQ below (va_Qi post (wD D A) A) av.toArray s 0 0 A) (F0 m 0 ls [])) : mI l y wd fr lo D ty sq ws sz av post :=
  b_met (Qc := fun A => va_Qi post (wD D A) A) hy hw hlen k
theorem b_metL {post : Int64 → va_W → Prop} (hy : plainName y.cls = true) (hw : wd = Cond.code y cc maxL ret :: wd') (hlen : (lg_sl av).length ≤ maxL)
    (k : ∀ (p : Program) (e : Env) (s : State) (m : MethodId) (below : List Frame) (meth : Method) (c : Code) (ls : Array Slot) (A : Nat → Prop) (H : Heap), bX p s m meth c cc maxL wd y ret av → sz = H.size → va_P D vwCl ws H → kW D ty sq s → sT sq A s s.heap → va_D A ws → (∀ q, s.heap.size ≤ q → A q) → va_S A s.heap H [] → lv_has ls maxL (lv_args 0 av) →
      W p l e (rmW fr lo 0 0) s m av.toArray below meth c H [] 0 0 (MQ below (va_Ql post (wD D A) A) av.toArray s 0 0 A) (F0 m 0 ls [])) : mL l y wd fr lo D ty sq ws sz av post :=
  b_met (Qc := fun A => va_Ql post (wD D A) A) hy hw hlen k
theorem b_metV {post : va_W → Prop} (hy : plainName y.cls = true) (hw : wd = Cond.code y cc maxL ret :: wd') (hlen : (lg_sl av).length ≤ maxL)
    (k : ∀ (p : Program) (e : Env) (s : State) (m : MethodId) (below : List Frame) (meth : Method) (c : Code) (ls : Array Slot) (A : Nat → Prop) (H : Heap), bX p s m meth c cc maxL wd y ret av → sz = H.size → va_P D vwCl ws H → kW D ty sq s → sT sq A s s.heap → va_D A ws → (∀ q, s.heap.size ≤ q → A q) → va_S A s.heap H [] → lv_has ls maxL (lv_args 0 av) →
      W p l e (rmW fr lo mc ms) s m av.toArray below meth c H [] 0 0 (MQ below (va_Qv post (wD D A) A) av.toArray s mc ms A) (F0 m 0 ls [])) : mV l y wd fr lo mc ms D ty sq ws sz av post :=
  b_met (Qc := fun A => va_Qv post (wD D A) A) hy hw hlen k
end BE
section BR
variable {p : Program} {l : Launch} {e : Env} {R : Room} {s : State} {m : MethodId} {args : Array Value} {below : List Frame} {meth : Method} {c : Code} {H : Heap} {locs : List Loc} {cells slots : Nat} {Q : State → Prop}
variable {D : va_G} {ty : List (ClassId × FieldType)} {sq : Nat → Nat} {ws : va_W} {cc : ByteArray} {nL : Nat} {Ts : List Cond} {own : String} {A : Nat → Prop} {pc : Nat} {ls : Array Slot} {rest : List Value}
theorem b_iret {post : Int32 → va_W → Prop} {v : Int32} (hx : p.tables.exec = Jvm.exec) (hb : c.code = cc) (hr : meth.sig.returnType = some .int) (hk : meth.locks = false) (hP : va_P D vwCl ws H) (hD : va_D A ws) (hS : va_S A s.heap H locs) (hpost : post v ws) (hdg : decode cc pc = .ok (.ireturn, 1)) :
    W p l e R s m args below meth c H locs cells slots (MQ below (va_Qi post (wD D A) A) args s cells slots A) (F0 m pc ls [.int v]) :=
  W.iret (v := v) hx hb hr (fun t ht _ => ⟨⟨v, ws, rfl, hpost, by rw [ht]; exact hP, hD⟩, hS.F ht⟩) hS.2.2 hdg hk
theorem b_zret {post : Int32 → va_W → Prop} {v : Int32} (hx : p.tables.exec = Jvm.exec) (hb : c.code = cc) (hr : meth.sig.returnType = some .boolean) (hk : meth.locks = false) (hn : narrow .boolean (.int v) = .int v) (hP : va_P D vwCl ws H) (hD : va_D A ws) (hS : va_S A s.heap H locs) (hpost : post v ws) (hdg : decode cc pc = .ok (.ireturn, 1)) :
    W p l e R s m args below meth c H locs cells slots (MQ below (va_Qi post (wD D A) A) args s cells slots A) (F0 m pc ls [.int v]) :=
  W.zret (v := v) (ty := .boolean) hx hb hr hn (fun t ht _ => ⟨⟨v, ws, rfl, hpost, by rw [ht]; exact hP, hD⟩, hS.F ht⟩) hS.2.2 hdg hk
theorem b_lret {post : Int64 → va_W → Prop} {v : Int64} (hx : p.tables.exec = Jvm.exec) (hb : c.code = cc) (hr : meth.sig.returnType = some .long) (hk : meth.locks = false) (hP : va_P D vwCl ws H) (hD : va_D A ws) (hS : va_S A s.heap H locs) (hpost : post v ws) (hdg : decode cc pc = .ok (.lreturn, 1)) :
    W p l e R s m args below meth c H locs cells slots (MQ below (va_Ql post (wD D A) A) args s cells slots A) (F0 m pc ls [.long v]) :=
  W.lret (v := v) hx hb hr (fun t ht _ => ⟨⟨v, ws, rfl, hpost, by rw [ht]; exact hP, hD⟩, hS.F ht⟩) hS.2.2 hdg hk
theorem b_vret {post : va_W → Prop} (hx : p.tables.exec = Jvm.exec) (hb : c.code = cc) (hr : meth.sig.returnType = none) (hk : meth.locks = false) (hP : va_P D vwCl ws H) (hD : va_D A ws) (hS : va_S A s.heap H locs) (hpost : post ws) (hdg : decode cc pc = .ok (.return_, 1)) :
    W p l e R s m args below meth c H locs cells slots (MQ below (va_Qv post (wD D A) A) args s cells slots A) (F0 m pc ls []) :=
  W.vret hx hb hr (fun t ht _ => ⟨⟨ws, rfl, hpost, by rw [ht]; exact hP, hD⟩, hS.F ht⟩) hS.2.2 hdg hk
theorem b_get {C : String} {T : u_T} {N ci index a : Nat} (S : CallFix p m c cc nL s args Ts own) (hin : ∀ w ∈ u_ws C T N, w ∈ Ts) (hK : kW D ty sq s) (hP : va_P D vwCl ws H) (q0 : Nat) {fs : List Value} (he : ws[q0]? = some (a, .inr (ci, fs))) (hc : vwCl[ci]? = some (C, T, N)) (k : Nat) (hk : k < N) (hl : Cond.fieldLink own index (T k).1 (T k).2.1 (T k).2.2.1 ∈ Ts) {v : Value} (hv : fs[k]? = some v) (hdg : decode cc pc = .ok (.getfield index, 3))
    (kk : W p l e R s m args below meth c H locs cells slots Q (F0 m (pc + 3) ls (v :: rest))) : W p l e R s m args below meth c H locs cells slots Q (F0 m pc ls (.ref a :: rest)) :=
  va_get (C := C) (T := T) (N := N) S.1 S.2.1 S.2.2.2.2 hin S.2.2.2.1 hK.1 hP q0 he hc k hk (S.2.2.2.2 _ hl) (fun _ h => h) hv hdg kk
theorem b_put {C : String} {T : u_T} {N ci index a : Nat} {H0 : Heap} (S : CallFix p m c cc nL s args Ts own) (hin : ∀ w ∈ u_ws C T N, w ∈ Ts) (ty0 : Nat → FieldType) (hty : ∀ k, k < N → parseFieldDescriptor (T k).2.2.1 = some (ty0 k)) (hnm : ∀ a, a < N → ∀ b, b < N → a ≠ b → (T a).2.1 ≠ (T b).2.1) (hK : kW D ty sq s) (hP : va_P D vwCl ws H) (hD : va_D A ws) (hS : va_S A H0 H locs) (q0 : Nat) {fs : List Value} (he : ws[q0]? = some (a, .inr (ci, fs))) (hc : vwCl[ci]? = some (C, T, N)) (k : Nat) (hk : k < N) (hl : Cond.fieldLink own index (T k).1 (T k).2.1 (T k).2.2.1 ∈ Ts) (hfin : (T k).2.2.2 = false) {v : Value} (hn : narrow (ty0 k) v = v) (hfit : fits (ty0 k) v = true) (hlt : k < fs.length) (hdg : decode cc pc = .ok (.putfield index, 3))
    (kk : ∀ (H1 : Heap) (locs1 : List Loc), va_P D vwCl (ws.set q0 (a, .inr (ci, fs.set k v))) H1 → va_D A (ws.set q0 (a, .inr (ci, fs.set k v))) → va_S A H0 H1 locs1 → W p l e R s m args below meth c H1 locs1 cells slots Q (F0 m (pc + 3) ls rest)) : W p l e R s m args below meth c H locs cells slots Q (F0 m pc ls (v :: .ref a :: rest)) :=
  va_put (C := C) (T := T) (N := N) S.1 S.2.1 S.2.2.2.2 hin ty0 hty hnm S.2.2.2.1 hK.1 hP hD hS q0 he hc k hk (S.2.2.2.2 _ hl) (fun _ h => h) hfin (hty k hk) hn hfit hlt hdg kk
theorem b_putF {C : String} {T : u_T} {N ci index a : Nat} {H0 : Heap} (S : CallFix p m c cc nL s args Ts own) (hin : ∀ w ∈ u_ws C T N, w ∈ Ts) (ty0 : Nat → FieldType) (hty : ∀ k, k < N → parseFieldDescriptor (T k).2.2.1 = some (ty0 k)) (hnm : ∀ a, a < N → ∀ b, b < N → a ≠ b → (T a).2.1 ≠ (T b).2.1) (hK : kW D ty sq s) (hP : va_P D vwCl ws H) (hD : va_D A ws) (hS : va_S A H0 H locs) (q0 : Nat) {fs : List Value} (he : ws[q0]? = some (a, .inr (ci, fs))) (hc : vwCl[ci]? = some (C, T, N)) (k : Nat) (hk : k < N) (hl : Cond.fieldLink own index (T k).1 (T k).2.1 (T k).2.2.1 ∈ Ts) (hfin : (T k).2.2.2 = true) (hi : meth.name = "<init>") (hde : (T k).1 = own) {v : Value} (hn : narrow (ty0 k) v = v) (hfit : fits (ty0 k) v = true) (hlt : k < fs.length) (hdg : decode cc pc = .ok (.putfield index, 3))
    (kk : ∀ (H1 : Heap) (locs1 : List Loc), va_P D vwCl (ws.set q0 (a, .inr (ci, fs.set k v))) H1 → va_D A (ws.set q0 (a, .inr (ci, fs.set k v))) → va_S A H0 H1 locs1 → W p l e R s m args below meth c H1 locs1 cells slots Q (F0 m (pc + 3) ls rest)) : W p l e R s m args below meth c H locs cells slots Q (F0 m pc ls (v :: .ref a :: rest)) :=
  va_putF (C := C) (T := T) (N := N) S.1 S.2.1 S.2.2.2.2 hin ty0 hty hnm S.2.2.2.1 hK.1 hP hD hS q0 he hc k hk (S.2.2.2.2 _ hl) (fun _ h => h) hfin hi hde (hty k hk) hn hfit hlt hdg kk
/-- a new row of ints: its class is the one that is known -/
theorem b_newi {H0 : Heap} {cI : ClassId} (S : CallFix p m c cc nL s args Ts own) (harr : Cond.arrayClass .int ∈ Ts) (hK : kW D ty sq s) (t0 : Nat) (ht : ty[t0]? = some (cI, .int)) (hP : va_P D vwCl ws H) (hD : va_D A ws) (hS : va_S A H0 H locs) (hA : ∀ q, H0.size ≤ q → A q) {n : Int32} {N' : Nat} (hn : ¬ n < 0) (hN : n.toNatClampNeg = N') (hby : N' * 4 ≤ 536870912) (hcells : cells + 1 ≤ R.cells) (hslots : slots + N' ≤ R.slots) (hdg : decode cc pc = .ok (.newarray .int, 2))
    (kk : ∀ (q : Nat) (H1 : Heap), va_P D vwCl (ws ++ [(q, .inl (cI, N', .inl (fun _ => 0)))]) H1 → va_D A (ws ++ [(q, .inl (cI, N', .inl (fun _ => 0)))]) → va_S A H0 H1 locs → W p l e R s m args below meth c H1 locs (cells + 1) (slots + N') Q (F0 m (pc + 2) ls (.ref q :: rest))) : W p l e R s m args below meth c H locs cells slots Q (F0 m pc ls (.int n :: rest)) := by
  refine va_newa (atype := .int) (ty := .int) (a0 := (N', .inl (fun _ => 0))) S.1 S.2.1 (S.2.2.2.2 _ harr) rfl hK.1 hP hD hS hA (fun cA => rfl) hn hN hby hcells hslots hdg (fun q cA H1 hK1 hP1 hD1 hS1 => ?_)
  have e1 := (hK.1.2 t0 _ ht).2
  have e2 := (hK1.2 ty.length (cA, .int) (by simp)).2
  have e3 : cA = cI := Option.some.inj (e2.symm.trans e1)
  subst e3
  exact kk q H1 hP1 hD1 hS1
theorem b_newz {H0 : Heap} {cI : ClassId} (S : CallFix p m c cc nL s args Ts own) (harr : Cond.arrayClass .boolean ∈ Ts) (hK : kW D ty sq s) (t0 : Nat) (ht : ty[t0]? = some (cI, .boolean)) (hP : va_P D vwCl ws H) (hD : va_D A ws) (hS : va_S A H0 H locs) (hA : ∀ q, H0.size ≤ q → A q) {n : Int32} {N' : Nat} (hn : ¬ n < 0) (hN : n.toNatClampNeg = N') (hby : N' * 1 ≤ 536870912) (hcells : cells + 1 ≤ R.cells) (hslots : slots + N' ≤ R.slots) (hdg : decode cc pc = .ok (.newarray .boolean, 2))
    (kk : ∀ (q : Nat) (H1 : Heap), va_P D vwCl (ws ++ [(q, .inl (cI, N', .inl (fun _ => 0)))]) H1 → va_D A (ws ++ [(q, .inl (cI, N', .inl (fun _ => 0)))]) → va_S A H0 H1 locs → W p l e R s m args below meth c H1 locs (cells + 1) (slots + N') Q (F0 m (pc + 2) ls (.ref q :: rest))) : W p l e R s m args below meth c H locs cells slots Q (F0 m pc ls (.int n :: rest)) := by
  refine va_newa (atype := .boolean) (ty := .boolean) (a0 := (N', .inl (fun _ => 0))) S.1 S.2.1 (S.2.2.2.2 _ harr) rfl hK.1 hP hD hS hA (fun cA => rfl) hn hN hby hcells hslots hdg (fun q cA H1 hK1 hP1 hD1 hS1 => ?_)
  have e1 := (hK.1.2 t0 _ ht).2
  have e2 := (hK1.2 ty.length (cA, .boolean) (by simp)).2
  have e3 : cA = cI := Option.some.inj (e2.symm.trans e1)
  subst e3
  exact kk q H1 hP1 hD1 hS1
theorem b_newq {H0 : Heap} {cA0 : ClassId} {C : String} {index : Nat} (S : CallFix p m c cc nL s args Ts own) (hcl : Cond.classLink own index C ∈ Ts) (hao : va_AO C s) (hK : kW D ty sq s) (t0 : Nat) (ht : ty[t0]? = some (cA0, .object C)) (hP : va_P D vwCl ws H) (hD : va_D A ws) (hS : va_S A H0 H locs) (hA : ∀ q, H0.size ≤ q → A q) {n : Int32} {N' : Nat} (hn : ¬ n < 0) (hN : n.toNatClampNeg = N') (hby : N' * 4 ≤ 536870912) (hcells : cells + 1 ≤ R.cells) (hslots : slots + N' ≤ R.slots) (hdg : decode cc pc = .ok (.anewarray index, 3))
    (kk : ∀ (q : Nat) (H1 : Heap), va_P D vwCl (ws ++ [(q, .inl (cA0, N', .inr (.inr (.inr (.inr (fun _ => none))))))]) H1 → va_D A (ws ++ [(q, .inl (cA0, N', .inr (.inr (.inr (.inr (fun _ => none))))))]) → va_S A H0 H1 locs → W p l e R s m args below meth c H1 locs (cells + 1) (slots + N') Q (F0 m (pc + 3) ls (.ref q :: rest))) : W p l e R s m args below meth c H locs cells slots Q (F0 m pc ls (.int n :: rest)) := by
  refine va_newq S.1 S.2.1 S.2.2.2.1 (S.2.2.2.2 _ hcl) hao hK.1 hP hD hS hA hn hN hby hcells hslots hdg (fun q cA H1 hK1 hP1 hD1 hS1 => ?_)
  obtain ⟨kA, co, -, -, -, e1⟩ := (hK.1.2 t0 _ ht).2
  obtain ⟨kB, cp, -, -, -, e2⟩ := (hK1.2 ty.length (cA, .object C) (by simp)).2
  have e3 : cA = cA0 := Option.some.inj (e2.symm.trans e1)
  subst e3
  exact kk q H1 hP1 hD1 hS1
theorem b_new {H0 : Heap} {C : String} {T : u_T} {N ci index : Nat} (S : CallFix p m c cc nL s args Ts own) (hin : ∀ w ∈ u_ws C T N, w ∈ Ts) (ty0 : Nat → FieldType) (hty : ∀ k, k < N → parseFieldDescriptor (T k).2.2.1 = some (ty0 k)) (hcl : Cond.classLink own index C ∈ Ts) (hins : Cond.instantiable C N ∈ Ts) (hini : Cond.initialized C ∈ Ts) (hK : kW D ty sq s) (hP : va_P D vwCl ws H) (hD : va_D A ws) (hS : va_S A H0 H locs) (hA : ∀ q, H0.size ≤ q → A q) (hc : vwCl[ci]? = some (C, T, N)) {fs : List Value} (hfs : ∀ j, j < N → defaultValue (ty0 j) = vp_V fs j) (hcells : cells + 1 ≤ R.cells) (hslots : slots + N ≤ R.slots) (hdg : decode cc pc = .ok (.new index, 3))
    (kk : ∀ (q : Nat) (H1 : Heap), va_P D vwCl (ws ++ [(q, .inr (ci, fs))]) H1 → va_D A (ws ++ [(q, .inr (ci, fs))]) → va_S A H0 H1 locs → W p l e R s m args below meth c H1 locs (cells + 1) (slots + N) Q (F0 m (pc + 3) ls (.ref q :: rest))) : W p l e R s m args below meth c H locs cells slots Q (F0 m pc ls rest) :=
  va_new (C := C) (T := T) (N := N) S.1 S.2.1 S.2.2.2.2 hin ty0 hty S.2.2.2.1 (S.2.2.2.2 _ hcl) (S.2.2.2.2 _ hins) (S.2.2.2.2 _ hini) hK.1 hP hD hS hA hc hfs hcells hslots hdg kk
theorem b_aald {a : Nat} {cA : ClassId} {C : String} {n q : Nat} {f : Nat → Option Nat} {i : Int32} (hx : p.tables.exec = Jvm.exec) (hb : c.code = cc) (hK : va_K D vwCl ty s) (hP : va_P D vwCl ws H) (q0 t0 : Nat) (ha : ws[q0]? = some (a, .inl (cA, n, .inr (.inr (.inr (.inr f)))))) (ht : ty[t0]? = some (cA, .object C)) (hin : vp_in i n) (hf : f i.toNatClampNeg = some q) (hdg : decode cc pc = .ok (.aaload, 1))
    (kk : W p l e R s m args below meth c H locs cells slots Q (F0 m (pc + 1) ls (.ref q :: rest))) : W p l e R s m args below meth c H locs cells slots Q (F0 m pc ls (.int i :: .ref a :: rest)) := by
  refine va_aldq hx hb hK hP q0 t0 ha ht hin hdg ?_
  rw [hf]
  exact kk
end BR
/-- what a call may be made with: the world of the callee is a part of the caller's -/
theorem b_blind {av : List Value} {D : va_G} {ty : List (ClassId × FieldType)} {sq : Nat → Nat} {ws : va_W} {sz : Nat} : FrameBlind (va_Pc av (pC D ty sq ws sz)) := fun a U g mk q => by
  obtain ⟨q0, q1, qP, qK, qD, qT⟩ := q
  exact ⟨q0, q1, qP, kW.same (u := U) (U := U.calling g mk a) rfl qK, qD, sT.to (u := U) (U := U.calling g mk a) (Vm.Alike.refl U.vm) (fun _ _ _ => rfl) (fun _ h => h) qT⟩
section BC
variable {p : Program} {l : Launch} {e : Env} {R : Room} {s : State} {m : MethodId} {args : Array Value} {below : List Frame} {meth : Method} {c : Code} {H : Heap} {locs : List Loc} {cells slots : Nat} {Q : State → Prop}
variable {D : va_G} {ty : List (ClassId × FieldType)} {sq : Nat → Nat} {ws wc wr : va_W} {cc : ByteArray} {nL : Nat} {Ts : List Cond} {own : String} {A : Nat → Prop} {pc : Nat} {ls : Array Slot} {rest st0 : List Value}
variable {y : MethodName} {wd wd' : List Cond} {fr lo mc ms n index maxL b : Nat} {bytes : ByteArray} {ret : Option FieldType} {As : List Value} {C : String} {host : String}
/-- the frame: what came back beside what was left -/
theorem b_joinw {w : va_W} {t : State} {H1 : Heap} (hP : va_P D vwCl ws H) (hD : va_D A ws) (hS : va_S A s.heap H locs) (hA : ∀ q, s.heap.size ≤ q → A q) (isC isR : List Nat) (hC : isC.map (fun i => ws[i]?) = wc.map some) (hR : isR.map (fun i => ws[i]?) = wr.map some) (hn : va_nd isR = true) (hdis : ∀ i ∈ isR, i ∉ isC)
    (ht : t.heap = H1) (hk : ∀ q : Nat, q < H.size → ¬ va_A wc H.size q → H1[q]? = H[q]?) (hB : wD D (va_A wc H.size) w t) : va_P D vwCl (wr ++ w) H1 ∧ va_D A (wr ++ w) := by
  obtain ⟨hP1, hD1⟩ := hB
  rw [ht] at hP1
  exact va_join hP hD isC isR hC hR hn hdis hk (va_free hD hS hA isC hC) hP1 hD1
theorem b_fm {α β : Type} (f : α → Option β) : ∀ (is : List α) (ws : List β), is.map f = ws.map some → is.filterMap f = ws
  | [], [], _ => rfl
  | [], _ :: _, h => by cases h
  | _ :: _, [], h => by cases h
  | i :: is, w :: ws, h => by
    simp only [List.map_cons, List.cons.injEq] at h
    rw [List.filterMap_cons, h.1, b_fm f is ws h.2]
theorem b_pre (hK : kW D ty sq s) (hT : sT sq A s s.heap) (hS : va_S A s.heap H locs) (hA : ∀ q, s.heap.size ≤ q → A q) (hP : va_P D vwCl ws H) (hD : va_D A ws) (isC : List Nat) (hC : isC.map (fun i => ws[i]?) = wc.map some) (hnC : va_nd isC = true) {av : List Value} : ∀ U : State, U.heap = H → s.WarmedH U.vm → va_Pc av (pC D ty sq wc H.size) av.toArray U :=
  fun U hU hW => ⟨rfl, by rw [hU], by rw [hU]; exact hP.sub isC (b_fm _ isC wc hC), hK.warm hW, (hD.sub isC hnC hC).weaken (fun _ _ _ _ => trivial), by rw [hU]; exact sT.to hW.alike hS.2.1 (va_free hD hS hA isC hC) hT⟩
theorem b_ai {post : Int32 → va_W → Prop} {a : Array Value} (hr : va_Run p l e R s m args below meth c H locs cells slots mc ms (F0 m pc ls st0) rest (va_Qi post (wD D (va_A wc H.size)) (va_A wc H.size) a) (va_A wc H.size)) (hP : va_P D vwCl ws H) (hD : va_D A ws) (hS : va_S A s.heap H locs) (hA : ∀ q, s.heap.size ≤ q → A q) (isC isR : List Nat) (hC : isC.map (fun i => ws[i]?) = wc.map some) (hR : isR.map (fun i => ws[i]?) = wr.map some) (hn : va_nd isR = true) (hdis : ∀ i ∈ isR, i ∉ isC)
    (kk : ∀ (r : Int32) (w : va_W) (H1 : Heap) (locs1 : List Loc), post r w → va_P D vwCl (wr ++ w) H1 → va_D A (wr ++ w) → va_S A s.heap H1 locs1 → W p l e R s m args below meth c H1 locs1 (cells + mc) (slots + ms) Q (F0 m (pc + 3) ls (.int r :: rest))) : W p l e R s m args below meth c H locs cells slots Q (F0 m pc ls st0) := by
  have hFc := va_free hD hS hA isC hC
  refine va_calli hr hS (fun q _ h => hFc q h) hFc (fun r u t H1 locs1 ht hvm hw2 hB hz1 hk1 hS1 => ?_)
  obtain ⟨hP1, hD1⟩ := b_joinw hP hD hS hA isC isR hC hR hn hdis ht hk1 hB
  exact kk r u H1 locs1 hw2 hP1 hD1 hS1
theorem b_al {post : Int64 → va_W → Prop} {a : Array Value} (hr : va_Run p l e R s m args below meth c H locs cells slots mc ms (F0 m pc ls st0) rest (va_Ql post (wD D (va_A wc H.size)) (va_A wc H.size) a) (va_A wc H.size)) (hP : va_P D vwCl ws H) (hD : va_D A ws) (hS : va_S A s.heap H locs) (hA : ∀ q, s.heap.size ≤ q → A q) (isC isR : List Nat) (hC : isC.map (fun i => ws[i]?) = wc.map some) (hR : isR.map (fun i => ws[i]?) = wr.map some) (hn : va_nd isR = true) (hdis : ∀ i ∈ isR, i ∉ isC)
    (kk : ∀ (r : Int64) (w : va_W) (H1 : Heap) (locs1 : List Loc), post r w → va_P D vwCl (wr ++ w) H1 → va_D A (wr ++ w) → va_S A s.heap H1 locs1 → W p l e R s m args below meth c H1 locs1 (cells + mc) (slots + ms) Q (F0 m (pc + 3) ls (.long r :: rest))) : W p l e R s m args below meth c H locs cells slots Q (F0 m pc ls st0) := by
  have hFc := va_free hD hS hA isC hC
  refine va_calll hr hS (fun q _ h => hFc q h) hFc (fun r u t H1 locs1 ht hvm hw2 hB hz1 hk1 hS1 => ?_)
  obtain ⟨hP1, hD1⟩ := b_joinw hP hD hS hA isC isR hC hR hn hdis ht hk1 hB
  exact kk r u H1 locs1 hw2 hP1 hD1 hS1
theorem b_av {post : va_W → Prop} {a : Array Value} (hr : va_Run p l e R s m args below meth c H locs cells slots mc ms (F0 m pc ls st0) rest (va_Qv post (wD D (va_A wc H.size)) (va_A wc H.size) a) (va_A wc H.size)) (hP : va_P D vwCl ws H) (hD : va_D A ws) (hS : va_S A s.heap H locs) (hA : ∀ q, s.heap.size ≤ q → A q) (isC isR : List Nat) (hC : isC.map (fun i => ws[i]?) = wc.map some) (hR : isR.map (fun i => ws[i]?) = wr.map some) (hn : va_nd isR = true) (hdis : ∀ i ∈ isR, i ∉ isC)
    (kk : ∀ (w : va_W) (H1 : Heap) (locs1 : List Loc), post w → va_P D vwCl (wr ++ w) H1 → va_D A (wr ++ w) → va_S A s.heap H1 locs1 → W p l e R s m args below meth c H1 locs1 (cells + mc) (slots + ms) Q (F0 m (pc + 3) ls rest)) : W p l e R s m args below meth c H locs cells slots Q (F0 m pc ls st0) := by
  have hFc := va_free hD hS hA isC hC
  refine va_callv hr hS (fun q _ h => hFc q h) hFc (fun u t H1 locs1 ht hvm hw2 hB hz1 hk1 hS1 => ?_)
  obtain ⟨hP1, hD1⟩ := b_joinw hP hD hS hA isC isR hC hR hn hdis ht hk1 hB
  exact kk u H1 locs1 hw2 hP1 hD1 hS1
variable {Qc : Array Value → State → Outcome → State → Prop} {free : Addr → Prop}
theorem b_runV {ci q0 : Nat} {T : u_T} {N : Nat} {fs : List Value} (hM : Met l y wd (rmW fr lo mc ms) (va_Pc (.ref b :: As) (pC D ty sq wc H.size)) Qc mc ms free) (S : CallFix p m c cc nL s args Ts own) (hG : GoodIn Ts (wsV own index C y wd)) (hw : wd = Cond.code y bytes maxL ret :: wd') (hd : y.cls = C ∧ y.cls ≠ "java/lang/invoke/MethodHandle" ∧ y.cls ≠ "java/lang/invoke/VarHandle" ∧ (parseMethodDescriptor y.desc).map (fun d => d.parameters.length) = some n) (hRm : fr + 1 ≤ R.frames ∧ 8 + (maxL + 11) + lo ≤ R.locals) (hf : cells + mc ≤ R.cells ∧ slots + ms ≤ R.slots)
    (hK : kW D ty sq s) (hT : sT sq A s s.heap) (hS : va_S A s.heap H locs) (hA : ∀ q, s.heap.size ≤ q → A q) (hP : va_P D vwCl ws H) (hD : va_D A ws) (hc : vwCl[ci]? = some (C, T, N)) (he : ws[q0]? = some (b, .inr (ci, fs))) (isC : List Nat) (hC : isC.map (fun i => ws[i]?) = wc.map some) (hnC : va_nd isC = true)
    (hAs : As.length = n) (hls : ls.size = nL) (hst : st0 = As.reverse ++ .ref b :: rest) (hcat : (rest.map fun v => v.category).sum ≤ 8) (hdg : decode cc pc = .ok (.invokevirtual index, 3)) :
    va_Run p l e R s m args below meth c H locs cells slots mc ms (F0 m pc ls st0) rest (Qc (Value.ref b :: As).toArray) free :=
  va_runV (As := As) (rest := rest) S hM (cwV n S.2.2.2.2 hG hw rfl rfl hd hRm) ⟨b_blind, va_recv hK.1 hP hc he, b_pre hK hT hS hA hP hD isC hC hnC⟩ rfl hAs hls hst (lv_room hcat) hdg hf
theorem b_runS (hM : Met l y wd (rmW fr lo mc ms) (va_Pc As (pC D ty sq wc H.size)) Qc mc ms free) (S : CallFix p m c cc nL s args Ts own) (hG : GoodIn Ts (va_wsS own index y wd)) (hw : wd = Cond.code y bytes maxL ret :: wd') (hd : y.cls ≠ "java/lang/invoke/MethodHandle" ∧ y.cls ≠ "java/lang/invoke/VarHandle" ∧ (parseMethodDescriptor y.desc).map (fun d => d.parameters.length) = some n) (hRm : fr + 1 ≤ R.frames ∧ 8 + (maxL + 11) + lo ≤ R.locals) (hf : cells + mc ≤ R.cells ∧ slots + ms ≤ R.slots)
    (hK : kW D ty sq s) (hT : sT sq A s s.heap) (hS : va_S A s.heap H locs) (hA : ∀ q, s.heap.size ≤ q → A q) (hP : va_P D vwCl ws H) (hD : va_D A ws) (isC : List Nat) (hC : isC.map (fun i => ws[i]?) = wc.map some) (hnC : va_nd isC = true)
    (hAs : As.length = n) (hls : ls.size = nL) (hst : st0 = As.reverse ++ rest) (hcat : (rest.map fun v => v.category).sum ≤ 8) (hdg : decode cc pc = .ok (.invokestatic index, 3)) :
    va_Run p l e R s m args below meth c H locs cells slots mc ms (F0 m pc ls st0) rest (Qc As.toArray) free :=
  va_runS (As := As) (rest := rest) S hM (va_cwS n S.2.2.2.2 hG hw rfl rfl hd hRm) ⟨b_blind, b_pre hK hT hS hA hP hD isC hC hnC⟩ rfl hAs hls hst (lv_room hcat) hdg hf
theorem b_runI (hM : Met l y wd (rmW fr lo mc ms) (va_Pc (.ref b :: As) (pC D ty sq wc H.size)) Qc mc ms free) (S : CallFix p m c cc nL s args Ts own) (hG : GoodIn Ts wd) (hw : wd = Cond.code y bytes maxL none :: wd') (hini : Cond.initialized y.cls ∈ Ts) (hml : Cond.methodLink own index y ∈ Ts) (him : Cond.instanceMethod y ∈ Ts) (hy1 : y.name = "<init>") (hd : y.cls ≠ "java/lang/invoke/MethodHandle" ∧ y.cls ≠ "java/lang/invoke/VarHandle" ∧ (parseMethodDescriptor y.desc).map (fun d => d.parameters.length) = some n) (hRm : fr + 1 ≤ R.frames ∧ 8 + (maxL + 11) + lo ≤ R.locals) (hf : cells + mc ≤ R.cells ∧ slots + ms ≤ R.slots)
    (hK : kW D ty sq s) (hT : sT sq A s s.heap) (hS : va_S A s.heap H locs) (hA : ∀ q, s.heap.size ≤ q → A q) (hP : va_P D vwCl ws H) (hD : va_D A ws) (isC : List Nat) (hC : isC.map (fun i => ws[i]?) = wc.map some) (hnC : va_nd isC = true)
    (hAs : As.length = n) (hls : ls.size = nL) (hst : st0 = As.reverse ++ .ref b :: rest) (hcat : (rest.map fun v => v.category).sum ≤ 8) (hdg : decode cc pc = .ok (.invokespecial index, 3)) :
    va_Run p l e R s m args below meth c H locs cells slots mc ms (F0 m pc ls st0) rest (Qc (Value.ref b :: As).toArray) free :=
  va_runI (As := As) (rest := rest) S hM (cwI n S.2.2.2.2 hG hw rfl rfl (S.2.2.2.2 _ hini) (S.2.2.2.2 _ hml) (S.2.2.2.2 _ him) hy1 hd hRm) ⟨b_blind, b_pre hK hT hS hA hP hD isC hC hnC⟩ rfl hAs hls hst (lv_room hcat) hdg hf
theorem b_runIN (hM : Met l y wd (rmW fr lo mc ms) (va_Pc (.ref b :: As) (pC D ty sq wc H.size)) Qc mc ms free) (S : CallFix p m c cc nL s args Ts own) (hG : GoodIn Ts wd) (hw : wd = Cond.code y bytes maxL none :: wd') (hini : Cond.initialized y.cls ∈ Ts) (hml : va_Nw (.methodLinkNest own index y host) s) (him : Cond.instanceMethod y ∈ Ts) (hy1 : y.name = "<init>") (hd : y.cls ≠ "java/lang/invoke/MethodHandle" ∧ y.cls ≠ "java/lang/invoke/VarHandle" ∧ (parseMethodDescriptor y.desc).map (fun d => d.parameters.length) = some n) (hRm : fr + 1 ≤ R.frames ∧ 8 + (maxL + 11) + lo ≤ R.locals) (hf : cells + mc ≤ R.cells ∧ slots + ms ≤ R.slots)
    (hK : kW D ty sq s) (hT : sT sq A s s.heap) (hS : va_S A s.heap H locs) (hA : ∀ q, s.heap.size ≤ q → A q) (hP : va_P D vwCl ws H) (hD : va_D A ws) (isC : List Nat) (hC : isC.map (fun i => ws[i]?) = wc.map some) (hnC : va_nd isC = true)
    (hAs : As.length = n) (hls : ls.size = nL) (hst : st0 = As.reverse ++ .ref b :: rest) (hcat : (rest.map fun v => v.category).sum ≤ 8) (hdg : decode cc pc = .ok (.invokespecial index, 3)) :
    va_Run p l e R s m args below meth c H locs cells slots mc ms (F0 m pc ls st0) rest (Qc (Value.ref b :: As).toArray) free :=
  va_runIN (As := As) (rest := rest) S hM ⟨va_cnB n S.2.2.2.2 hG hw rfl rfl hml (S.2.2.2.2 _ hini) hd hRm, hy1, S.2.2.2.2 _ him⟩ ⟨b_blind, b_pre hK hT hS hA hP hD isC hC hnC⟩ rfl hAs hls hst (lv_room hcat) hdg hf
end BC
theorem c_lt {a n : Int32} {N : Int} (hN : n.toInt = N) : a < n ↔ a.toInt < N := by rw [Int32.lt_iff_toInt_lt, hN]
theorem c_gt {a n : Int32} {N : Int} (hN : n.toInt = N) : n < a ↔ N < a.toInt := by rw [Int32.lt_iff_toInt_lt, hN]
theorem c_le {a n : Int32} {N : Int} (hN : n.toInt = N) : a ≤ n ↔ a.toInt ≤ N := by rw [Int32.le_iff_toInt_le, hN]
theorem c_ge {a n : Int32} {N : Int} (hN : n.toInt = N) : n ≤ a ↔ N ≤ a.toInt := by rw [Int32.le_iff_toInt_le, hN]
theorem l_lt {a : Int32} {n : Int64} {N : Int} (hN : n.toInt = N) : a.toInt64 < n ↔ a.toInt < N := by rw [Int64.lt_iff_toInt_lt, hN, Int32.toInt_toInt64]
theorem l_gt {a : Int32} {n : Int64} {N : Int} (hN : n.toInt = N) : n < a.toInt64 ↔ N < a.toInt := by rw [Int64.lt_iff_toInt_lt, hN, Int32.toInt_toInt64]
theorem bm32 {x : Int} (h1 : -2147483648 ≤ x) (h2 : x < 2147483648) : x.bmod (2 ^ 32) = x := by
  first
    | (rw [Int.bmod_def]; split <;> omega)
    | (rw [Int.bmod_eq_of_le (by omega) (by omega)])
/-- what is left of a number that is not below 0, divided by 10 -/
theorem rem10 {k : Int32} (h : ¬ k < 0) : (0 : Int32) ≤ k - k / 10 * 10 := by
  rw [c_lt (N := 0) rfl] at h
  have h2 : k.toInt < 2147483648 := by have := Int32.toInt_lt k; omega
  have e1 : (k / 10).toInt = k.toInt / 10 := by
    rw [Int32.toInt_div, show (10 : Int32).toInt = 10 from rfl, Int.tdiv_eq_ediv_of_nonneg (by omega)]
    exact bm32 (by omega) (by omega)
  have e2 : (k / 10 * 10).toInt = k.toInt / 10 * 10 := by
    rw [Int32.toInt_mul, e1, show (10 : Int32).toInt = 10 from rfl]
    exact bm32 (by omega) (by omega)
  rw [c_ge (N := 0) rfl, Int32.toInt_sub, e2, bm32 (by omega) (by omega)]
  omega
theorem in_of {a : Int32} {n : Nat} (h0 : 0 ≤ a.toInt) (h1 : a.toInt < n) : vp_in a n := by
  unfold vp_in
  rw [c_lt (N := 0) rfl]
  have h2 : a.toNatClampNeg = a.toInt.toNat := rfl
  omega
theorem lt2 {a b : Int32} {A B : Int} (ha : a.toInt = A) (hb : b.toInt = B) : a < b ↔ A < B := by rw [Int32.lt_iff_toInt_lt, ha, hb]
theorem le2 {a b : Int32} {A B : Int} (ha : a.toInt = A) (hb : b.toInt = B) : a ≤ b ↔ A ≤ B := by rw [Int32.le_iff_toInt_le, ha, hb]
theorem eq2 {a b : Int32} {A B : Int} (ha : a.toInt = A) (hb : b.toInt = B) : a = b ↔ A = B := by rw [← ha, ← hb]; exact Int32.toInt_inj.symm
theorem addI {x a b : Int32} {A B : Int} (e : x = a + b) (ha : a.toInt = A) (hb : b.toInt = B) (h1 : -2147483648 ≤ A + B) (h2 : A + B < 2147483648) : x.toInt = A + B := by
  rw [e, Int32.toInt_add, ha, hb]; exact bm32 h1 h2
theorem subI {x a b : Int32} {A B : Int} (e : x = a - b) (ha : a.toInt = A) (hb : b.toInt = B) (h1 : -2147483648 ≤ A - B) (h2 : A - B < 2147483648) : x.toInt = A - B := by
  rw [e, Int32.toInt_sub, ha, hb]; exact bm32 h1 h2
theorem mulI {x a b : Int32} {A B : Int} (e : x = a * b) (ha : a.toInt = A) (hb : b.toInt = B) (h1 : -2147483648 ≤ A * B) (h2 : A * B < 2147483648) : x.toInt = A * B := by
  rw [e, Int32.toInt_mul, ha, hb]; exact bm32 h1 h2
theorem divI {x a b : Int32} {A B : Int} (e : x = a / b) (ha : a.toInt = A) (hb : b.toInt = B) (h0 : 0 ≤ A) (hB : 1 ≤ B) : x.toInt = A / B := by
  have h2 : A < 2147483648 := by have := Int32.toInt_lt a; omega
  rw [e, Int32.toInt_div, ha, hb, Int.tdiv_eq_ediv_of_nonneg h0]
  have h3 : 0 ≤ A / B := Int.ediv_nonneg h0 (by omega)
  have h4 : A / B ≤ A := Int.ediv_le_self B h0
  exact bm32 (by omega) (by omega)
theorem remI {x a b : Int32} {A B : Int} (e : x = a - a / b * b) (ha : a.toInt = A) (hb : b.toInt = B) (h0 : 0 ≤ A) (hB : 1 ≤ B) : x.toInt = A % B := by
  have h2 : A < 2147483648 := by have := Int32.toInt_lt a; omega
  have e1 : (a / b).toInt = A / B := divI rfl ha hb h0 hB
  have h3 : 0 ≤ A / B := Int.ediv_nonneg h0 (by omega)
  have h5 : A / B * B ≤ A := Int.ediv_mul_le A (by omega)
  have h6 : 0 ≤ A / B * B := Int.mul_nonneg h3 (by omega)
  have e2 : (a / b * b).toInt = A / B * B := mulI rfl e1 hb (by omega) (by omega)
  have e3 : x.toInt = A - A / B * B := subI e ha e2 (by omega) (by omega)
  rw [e3, Int.emod_def, Int.mul_comm B (A / B)]
/-- every number of a row lies between two -/
def rng (f : Nat → Int32) (n : Nat) (lo hi : Int) : Prop := ∀ j, j < n → lo ≤ (f j).toInt ∧ (f j).toInt ≤ hi
theorem rng_get {f : Nat → Int32} {n : Nat} {lo hi : Int} {x i : Int32} (h : rng f n lo hi) (hn : vp_in i n) (e : x = f i.toNatClampNeg) : lo ≤ x.toInt ∧ x.toInt ≤ hi := by
  rw [e]
  exact h _ (Nat.not_le.mp fun q => hn (Or.inr q))
theorem rng_upd {f : Nat → Int32} {n i : Nat} {lo hi : Int} {x : Int32} (h : rng f n lo hi) (hx : lo ≤ x.toInt ∧ x.toInt ≤ hi) : rng (upd f i x) n lo hi := by
  intro j hj
  show lo ≤ (if j = i then x else f j).toInt ∧ (if j = i then x else f j).toInt ≤ hi
  split
  · exact hx
  · exact h j hj
theorem cpy_le {a n : Int32} {N0 : Nat} {A B : Int} (ha : a.toInt = A) (hn : n.toInt = B) (h1 : 0 ≤ A) (h2 : 0 ≤ B) (h3 : A + B ≤ N0) : a.toNatClampNeg + n.toNatClampNeg ≤ N0 := by
  have e1 : a.toNatClampNeg = a.toInt.toNat := rfl
  have e2 : n.toNatClampNeg = n.toInt.toNat := rfl
  omega
theorem rng_cpy {f g : Nat → Int32} {n sp dp k : Nat} {lo hi : Int} (hf : rng f n lo hi) (hg : rng g n lo hi) (hk : sp + k ≤ n) : rng (va_cpy f g sp dp k) n lo hi := by
  intro j hj
  show lo ≤ (if dp ≤ j ∧ j < dp + k then f (sp + (j - dp)) else g j).toInt ∧ (if dp ≤ j ∧ j < dp + k then f (sp + (j - dp)) else g j).toInt ≤ hi
  split
  · exact hf _ (by omega)
  · exact hg j hj
theorem rng_zero {n : Nat} {lo hi : Int} (h1 : lo ≤ 0) (h2 : 0 ≤ hi) : rng (fun _ => 0) n lo hi := fun _ _ => ⟨h1, h2⟩
