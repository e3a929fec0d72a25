/-! a contract over a part of a world is one over the whole; the two worlds of the law side by side -/
section FR
variable {l : Launch} {y : MethodName} {wd wd' : List Cond} {fr lo : Nat} {D : va_G} {ty : List (ClassId × FieldType)} {sq : Nat → Nat} {ws wc wr : va_W} {sz : Nat} {av : List Value}
theorem b_frI {post : Int32 → va_W → Prop} (h : mI l y wd fr lo D ty sq wc sz av post) (isC isR : List Nat) (hC : isC.map (fun i => ws[i]?) = wc.map some) (hnC : va_nd isC = true) (hR : isR.map (fun i => ws[i]?) = wr.map some) (hn : va_nd isR = true) (hdis : ∀ i ∈ isR, i ∉ isC) :
    mI l y wd fr lo D ty sq ws sz av (fun r w => ∃ w', post r w' ∧ w = wr ++ w') := by
  refine MetFree.mono h ?_ (fun _ _ _ _ _ k => k) ?_
  · intro a s hp
    obtain ⟨rfl, hsz, hP, hK, hD, hT⟩ := hp
    have sub : ∀ q, va_A wc sz q → va_A ws sz q := by
      rw [← hsz]
      exact va_free (A0 := va_A ws s.heap.size) (H0 := s.heap) hD.self (va_S.rf (A := va_A ws s.heap.size) (H0 := s.heap)) (fun q h => Or.inr h) isC hC
    exact ⟨rfl, hsz, hP.sub isC (b_fm _ isC wc hC), hK, (hD.sub isC hnC hC).weaken (fun _ _ _ _ => trivial), sT.to (Vm.Alike.refl _) (fun _ _ _ => rfl) sub hT⟩
  · intro a s o t hp hq
    obtain ⟨rfl, hsz, hP, hK, hD, hT⟩ := hp
    obtain ⟨⟨⟨r, u, ho, hpost, hP1, hD1⟩, hF⟩, Lx, hFE, hLx⟩ := hq
    subst hsz
    have sub : ∀ q, va_A wc s.heap.size q → va_A ws s.heap.size q := va_free (A0 := va_A ws s.heap.size) (H0 := s.heap) hD.self (va_S.rf (A := va_A ws s.heap.size) (H0 := s.heap)) (fun q h => Or.inr h) isC hC
    have hJ := va_join (A0 := va_A ws s.heap.size) hP hD.self isC isR hC hR hn hdis hF.2 sub hP1 hD1
    exact ⟨⟨⟨r, wr ++ u, ho, ⟨u, hpost, rfl⟩, hJ.1, hJ.2⟩, hF.1, fun q h1 h2 => hF.2 q h1 (fun z => h2 (sub q z))⟩, Lx, hFE, fun q hq => sub _ (hLx q hq)⟩
theorem b_cvI {post post' : Int32 → va_W → Prop} (h : mI l y wd fr lo D ty sq ws sz av post) (hc : ∀ (r : Int32) (w : va_W), post r w → ∃ (is : List Nat) (w2 : va_W), va_nd is = true ∧ is.map (fun i => w[i]?) = w2.map some ∧ post' r w2) : mI l y wd fr lo D ty sq ws sz av post' := by
  refine MetFree.mono h (fun _ _ k => k) (fun _ _ _ _ _ k => k) ?_
  intro a s o t hp hq
  obtain ⟨⟨⟨r, u, ho, hpost, hP1, hD1⟩, hF⟩, hr⟩ := hq
  obtain ⟨is, w2, h1, h2, h3⟩ := hc r u hpost
  exact ⟨⟨⟨r, w2, ho, h3, hP1.sub is (b_fm _ is w2 h2), hD1.sub is h1 h2⟩, hF⟩, hr⟩
/-- from a part's contract to the whole world's, in the whole's own order -/
theorem b_lfI {post post' : Int32 → va_W → Prop} (h : mI l y wd fr lo D ty sq wc sz av post) (isC isR : List Nat) (hC : isC.map (fun i => ws[i]?) = wc.map some) (hnC : va_nd isC = true) (hR : isR.map (fun i => ws[i]?) = wr.map some) (hn : va_nd isR = true) (hdis : ∀ i ∈ isR, i ∉ isC)
    (hc : ∀ (r : Int32) (w : va_W), post r w → ∃ (is : List Nat) (w2 : va_W), va_nd is = true ∧ is.map (fun i => (wr ++ w)[i]?) = w2.map some ∧ post' r w2) : mI l y wd fr lo D ty sq ws sz av post' := by
  refine b_cvI (b_frI h isC isR hC hnC hR hn hdis) ?_
  intro r w hw
  obtain ⟨w', hw', rfl⟩ := hw
  exact hc r w' hw'
end FR
theorem rg_map : ∀ (w pre post : va_W), (List.range' pre.length w.length).map (fun i => (pre ++ (w ++ post))[i]?) = w.map some
  | [], _, _ => rfl
  | a :: w, pre, post => by
    have ih := rg_map w (pre ++ [a]) post
    rw [List.length_append, List.append_assoc] at ih
    rw [List.length_cons, List.range'_succ, List.map_cons, List.map_cons]
    refine congr (congrArg List.cons ?_) ih
    rw [List.getElem?_append_right (Nat.le_refl _), Nat.sub_self]
    rfl
theorem rg_nd : ∀ (n k : Nat), va_nd (List.range' k n) = true
  | 0, _ => rfl
  | n + 1, k => by
    rw [List.range'_succ]
    simp only [va_nd, Bool.and_eq_true, decide_eq_true_eq]
    refine ⟨fun h => ?_, rg_nd n (k + 1)⟩
    have h1 := List.mem_range'_1.mp h
    omega
theorem ap_L (wx wy : va_W) : (List.range' 0 wx.length).map (fun i => (wx ++ wy)[i]?) = wx.map some := rg_map wx [] wy
theorem ap_R (wx wy : va_W) : (List.range' wx.length wy.length).map (fun i => (wx ++ wy)[i]?) = wy.map some := by
  have h := rg_map wy wx []
  rw [List.append_nil] at h
  exact h
theorem ap_dis (wx wy : va_W) : ∀ i ∈ List.range' wx.length wy.length, i ∉ List.range' 0 wx.length := by
  intro i h1 h2
  have h3 := List.mem_range'_1.mp h1
  have h4 := List.mem_range'_1.mp h2
  omega
section LC
variable {p : Program} {l : Launch} {e : Env} {R : Room} {s : State} {m : MethodId} {args : Array Value} {below : List Frame} {meth : Method} {c : Code} {H : Heap} {locs : List Loc} {cells slots : Nat} {Q : State → Prop}
variable {D : va_G} {ty : List (ClassId × FieldType)} {sq : Nat → Nat} {wc wr : va_W} {cc : ByteArray} {nL : Nat} {Ts : List Cond} {own : String} {A : Nat → Prop} {pc : Nat} {ls : Array Slot} {rest st0 : List Value}
variable {y : MethodName} {wd wd' : List Cond} {fr lo n index maxL b : Nat} {bytes : ByteArray} {ret : Option FieldType} {As : List Value} {C : String}
/-- a call on the first of two worlds: the other stays, and what comes back stands behind it -/
theorem law_ci {post : Int32 → va_W → Prop} {ci : Nat} {T : u_T} {N : Nat} {fs : List Value} (hM : mI l y wd fr lo D ty sq wc H.size (.ref b :: As) post) (S : CallFix p m c cc nL s args Ts own) (hG : GoodIn Ts (wsV own index C y wd)) (hw : wd = Cond.code y bytes maxL ret :: wd') (hd : y.cls = C ∧ y.cls ≠ "java/lang/invoke/MethodHandle" ∧ y.cls ≠ "java/lang/invoke/VarHandle" ∧ (parseMethodDescriptor y.desc).map (fun d => d.parameters.length) = some n) (hRm : fr + 1 ≤ R.frames ∧ 8 + (maxL + 11) + lo ≤ R.locals) (hf : cells + 0 ≤ R.cells ∧ slots + 0 ≤ R.slots)
    (hK : kW D ty sq s) (hT : sT sq A s s.heap) (hS : va_S A s.heap H locs) (hA : ∀ q, s.heap.size ≤ q → A q) (hP : va_P D vwCl (wc ++ wr) H) (hD : va_D A (wc ++ wr)) (hc : vwCl[ci]? = some (C, T, N)) (he : wc[0]? = some (b, .inr (ci, fs)))
    (hAs : As.length = n) (hls : ls.size = nL) (hst : st0 = As.reverse ++ .ref b :: rest) (hcat : (rest.map fun v => v.category).sum ≤ 8) (hdg : decode cc pc = .ok (.invokevirtual index, 3))
    (kk : ∀ (r : Int32) (w : va_W) (H1 : Heap) (locs1 : List Loc), post r w → va_P D vwCl (wr ++ w) H1 → va_D A (wr ++ w) → va_S A s.heap H1 locs1 → W p l e R s m args below meth c H1 locs1 cells slots Q (F0 m (pc + 3) ls (.int r :: rest))) : W p l e R s m args below meth c H locs cells slots Q (F0 m pc ls st0) := by
  have he2 : (wc ++ wr)[0]? = some (b, .inr (ci, fs)) := by
    cases wc with
    | nil => simp at he
    | cons a t => exact he
  exact b_ai (wr := wr) (b_runV (q0 := 0) (ci := ci) (As := As) hM S hG hw hd hRm hf hK hT hS hA hP hD hc he2 (List.range' 0 wc.length) (ap_L wc wr) (rg_nd _ _) hAs hls hst hcat hdg) hP hD hS hA (List.range' 0 wc.length) (List.range' wc.length wr.length) (ap_L wc wr) (ap_R wc wr) (rg_nd _ _) (ap_dis wc wr) kk
end LC
/-! the world that comes back, laid over the one before: places are compared by a decision over numbers, cells aren't moved about -/
def st_all (ws : va_W) : List Nat → va_W → va_W
  | i :: is, c :: cs => (st_all ws is cs).set i c
  | _, _ => ws
theorem st_len (ws : va_W) : ∀ (is : List Nat) (cs : va_W), (st_all ws is cs).length = ws.length := by
  intro is
  induction is with
  | nil => intro cs; rfl
  | cons i is ih =>
    intro cs
    cases cs with
    | nil => rfl
    | cons c cs =>
      show ((st_all ws is cs).set i c).length = ws.length
      rw [List.length_set]
      exact ih cs
theorem st_out (ws : va_W) : ∀ (is : List Nat) (cs : va_W) (j : Nat), j ∉ is → (st_all ws is cs)[j]? = ws[j]? := by
  intro is
  induction is with
  | nil => intro cs j _; rfl
  | cons i is ih =>
    intro cs j h
    cases cs with
    | nil => rfl
    | cons c cs =>
      show ((st_all ws is cs).set i c)[j]? = ws[j]?
      rw [List.getElem?_set_ne (fun e => h (List.mem_cons.mpr (Or.inl e.symm)))]
      exact ih cs j (fun z => h (List.mem_cons_of_mem _ z))
theorem st_in (ws : va_W) : ∀ (is : List Nat) (cs : va_W) (k j : Nat), va_nd is = true → is.length = cs.length → is[k]? = some j → j < ws.length → (st_all ws is cs)[j]? = cs[k]? := by
  intro is
  induction is with
  | nil => intro cs k j _ _ h _; simp at h
  | cons i is ih =>
    intro cs k j hn hl h hj
    cases cs with
    | nil => simp at hl
    | cons c cs =>
      have hn2 := hn
      simp only [va_nd, Bool.and_eq_true, decide_eq_true_eq] at hn2
      show ((st_all ws is cs).set i c)[j]? = (c :: cs)[k]?
      cases k with
      | zero =>
        have e : i = j := Option.some.inj (show some i = some j from h)
        subst e
        rw [List.getElem?_set_self (by rw [st_len]; exact hj)]
        rfl
      | succ k =>
        have h2 : is[k]? = some j := h
        have hm : j ∈ is := List.mem_of_getElem? h2
        rw [List.getElem?_set_ne (fun e => hn2.1 (by rw [e]; exact hm))]
        exact ih cs k j hn2.2 (Nat.succ.inj hl) h2 hj
theorem st_sel (ws : va_W) : ∀ (is : List Nat), (∀ i ∈ is, i < ws.length) → ∃ wr : va_W, is.map (fun i => ws[i]?) = wr.map some := by
  intro is
  induction is with
  | nil => intro _; exact ⟨[], rfl⟩
  | cons i is ih =>
    intro h
    obtain ⟨wr, e⟩ := ih (fun j hj => h j (List.mem_cons_of_mem _ hj))
    have hi : i < ws.length := h i (List.mem_cons.mpr (Or.inl rfl))
    refine ⟨ws[i]'hi :: wr, ?_⟩
    show ws[i]? :: is.map (fun i => ws[i]?) = some (ws[i]'hi) :: wr.map some
    rw [e, List.getElem?_eq_getElem hi]
def lfA (n : Nat) (isC isR : List Nat) : Bool := va_nd isC && (va_nd isR && isR.all (fun i => decide (i < n) && decide (i ∉ isC)))
def lfB (n : Nat) (isR isW isB : List Nat) : Bool := va_nd isB && (va_nd isW && (isR.all (fun i => decide (i ∉ isW)) && decide (isB.map (fun k => (isR ++ isW)[k]?) = (List.range n).map some)))
theorem lf_w {ws wr w : va_W} {isR isW isB : List Nat} (hR : isR.map (fun i => ws[i]?) = wr.map some) (hl : isW.length = w.length) (hb : lfB ws.length isR isW isB = true) : isB.map (fun k => (wr ++ w)[k]?) = (st_all ws isW w).map some := by
  unfold lfB at hb
  simp only [Bool.and_eq_true, List.all_eq_true, decide_eq_true_eq] at hb
  obtain ⟨_, hW, hd, hB⟩ := hb
  have hlen : wr.length = isR.length := by
    have e := congrArg List.length hR
    rw [List.length_map, List.length_map] at e
    exact e.symm
  refine List.ext_getElem? (fun j => ?_)
  rw [List.getElem?_map, List.getElem?_map]
  have hj := congrArg (fun z => z[j]?) hB
  simp only [List.getElem?_map] at hj
  cases hbj : isB[j]? with
  | none =>
    rw [hbj] at hj
    have hn : ws.length ≤ j := by
      apply Nat.le_of_not_lt
      intro z
      rw [List.getElem?_range z] at hj
      simp at hj
    rw [List.getElem?_eq_none (by rw [st_len]; exact hn)]
    rfl
  | some k =>
    rw [hbj] at hj
    have hj1 : j < ws.length := by
      apply Nat.lt_of_not_le
      intro z
      rw [List.getElem?_eq_none (by rw [List.length_range]; exact z)] at hj
      simp at hj
    rw [List.getElem?_range hj1] at hj
    have hk : (isR ++ isW)[k]? = some j := Option.some.inj hj
    obtain ⟨c, hc⟩ : ∃ c, ws[j]? = some c := ⟨_, List.getElem?_eq_getElem hj1⟩
    show some ((wr ++ w)[k]?) = ((st_all ws isW w)[j]?).map some
    by_cases hlt : k < isR.length
    · rw [List.getElem?_append_left hlt] at hk
      have hm : j ∈ isR := List.mem_of_getElem? hk
      have e := congrArg (fun z => z[k]?) hR
      simp only [List.getElem?_map] at e
      rw [hk] at e
      have e1 : some (ws[j]?) = (wr[k]?).map some := e
      rw [List.getElem?_append_left (by rw [hlen]; exact hlt), st_out ws isW w j (hd j hm), hc]
      rw [hc] at e1
      cases hw : wr[k]? with
      | none => rw [hw] at e1; simp at e1
      | some d =>
        rw [hw] at e1
        have e2 : c = d := Option.some.inj (Option.some.inj (show some (some c) = some (some d) from e1))
        rw [e2]
        rfl
    · have hge : isR.length ≤ k := Nat.le_of_not_lt hlt
      rw [List.getElem?_append_right hge] at hk
      rw [List.getElem?_append_right (by rw [hlen]; exact hge), hlen]
      have q := st_in ws isW w (k - isR.length) j hW hl hk hj1
      obtain ⟨d, hd2⟩ : ∃ d, (st_all ws isW w)[j]? = some d := ⟨_, List.getElem?_eq_getElem (by rw [st_len]; exact hj1)⟩
      rw [← q, hd2]
      rfl
section FS
variable {l : Launch} {y : MethodName} {wd : List Cond} {fr lo : Nat} {D : va_G} {ty : List (ClassId × FieldType)} {sq : Nat → Nat} {ws wc : va_W} {sz : Nat} {av : List Value}
theorem b_lfS {n : Nat} {post post' : Int32 → va_W → Prop} (h : mI l y wd fr lo D ty sq wc sz av post) (isC isR : List Nat) (hC : isC.map (fun i => ws[i]?) = wc.map some) (hn : ws.length = n) (hA : lfA n isC isR = true)
    (hc : ∀ (r : Int32) (w : va_W), post r w → ∃ isW isB : List Nat, isW.length = w.length ∧ lfB n isR isW isB = true ∧ post' r (st_all ws isW w)) : mI l y wd fr lo D ty sq ws sz av post' := by
  subst hn
  unfold lfA at hA
  simp only [Bool.and_eq_true, List.all_eq_true, decide_eq_true_eq] at hA
  obtain ⟨h1, h2, h3⟩ := hA
  obtain ⟨wr, hR⟩ := st_sel ws isR (fun i hi => (h3 i hi).1)
  refine b_lfI h isC isR hC h1 hR h2 (fun i hi => (h3 i hi).2) ?_
  intro r w hw
  obtain ⟨isW, isB, hl, hb, hp⟩ := hc r w hw
  have hb1 : va_nd isB = true := by
    unfold lfB at hb
    simp only [Bool.and_eq_true] at hb
    exact hb.1
  exact ⟨isB, _, hb1, lf_w hR hl hb, hp⟩
end FS
/-! the same world read off a table: for each place 0 (the cell as it was) or the new cell's number and one -/
def tp_at (j : Nat) : List Nat → Nat
  | i :: is => bif Nat.beq i j then 1 else (match tp_at j is with | 0 => 0 | k + 1 => k + 2)
  | [] => 0
def nt_at {α : Type} : List α → Nat → α → α
  | c :: _, 0, _ => c
  | _ :: cs, k + 1, x => nt_at cs k x
  | [], _, x => x
def mg_t {α : Type} (cs : List α) : List Nat → List α → List α
  | [], xs => xs
  | _ :: _, [] => []
  | 0 :: L, x :: xs => x :: mg_t cs L xs
  | (k + 1) :: L, x :: xs => nt_at cs k x :: mg_t cs L xs
theorem nt_get {α : Type} : ∀ (cs : List α) (k : Nat) (x c : α), cs[k]? = some c → nt_at cs k x = c := by
  intro cs
  induction cs with
  | nil => intro k x c h; simp at h
  | cons d cs ih =>
    intro k x c h
    cases k with
    | zero => exact Option.some.inj h
    | succ k => exact ih k x c h
theorem tp_out : ∀ (is : List Nat) (j : Nat), tp_at j is = 0 → j ∉ is := by
  intro is
  induction is with
  | nil => intro j _; exact List.not_mem_nil
  | cons i is ih =>
    intro j h
    unfold tp_at at h
    cases hb : Nat.beq i j with
    | true => rw [hb] at h; exact absurd h Nat.one_ne_zero
    | false =>
      rw [hb] at h
      have hne : i ≠ j := fun z => by rw [z, Nat.beq_refl] at hb; exact absurd hb (by decide)
      cases ht : tp_at j is with
      | zero =>
        intro hm
        rcases List.mem_cons.mp hm with e | hm
        · exact hne e.symm
        · exact ih j ht hm
      | succ k => rw [ht] at h; exact absurd h (Nat.succ_ne_zero _)
theorem tp_in : ∀ (is : List Nat) (j k : Nat), tp_at j is = k + 1 → is[k]? = some j := by
  intro is
  induction is with
  | nil => intro j k h; exact absurd h.symm (Nat.succ_ne_zero _)
  | cons i is ih =>
    intro j k h
    unfold tp_at at h
    cases hb : Nat.beq i j with
    | true =>
      rw [hb] at h
      have hk : 0 = k := Nat.succ.inj h
      subst hk
      rw [Nat.eq_of_beq_eq_true hb]
      rfl
    | false =>
      rw [hb] at h
      cases ht : tp_at j is with
      | zero => rw [ht] at h; exact absurd h.symm (Nat.succ_ne_zero _)
      | succ q =>
        rw [ht] at h
        have hk : q + 1 = k := Nat.succ.inj h
        subst hk
        exact ih j q ht
theorem mg_0 {α : Type} (cs : List α) : ∀ (L : List Nat) (xs : List α) (j : Nat), L[j]? = some 0 → (mg_t cs L xs)[j]? = xs[j]? := by
  intro L
  induction L with
  | nil => intro xs j h; simp at h
  | cons t L ih =>
    intro xs j h
    cases xs with
    | nil => rfl
    | cons x xs =>
      cases j with
      | zero =>
        have e : t = 0 := Option.some.inj h
        subst e
        rfl
      | succ j =>
        cases t with
        | zero => exact ih xs j h
        | succ k => exact ih xs j h
theorem mg_1 {α : Type} (cs : List α) : ∀ (L : List Nat) (xs : List α) (j k : Nat) (c : α), L[j]? = some (k + 1) → cs[k]? = some c → j < xs.length → (mg_t cs L xs)[j]? = some c := by
  intro L
  induction L with
  | nil => intro xs j k c h; simp at h
  | cons t L ih =>
    intro xs j k c h hc hj
    cases xs with
    | nil => exact absurd hj (Nat.not_lt_zero _)
    | cons x xs =>
      cases j with
      | zero =>
        have e : t = k + 1 := Option.some.inj h
        subst e
        exact congrArg some (nt_get cs k x c hc)
      | succ j =>
        have h2 : j < xs.length := Nat.lt_of_succ_lt_succ hj
        cases t with
        | zero => exact ih xs j k c h hc h2
        | succ q => exact ih xs j k c h hc h2
theorem mg_len {α : Type} (cs : List α) : ∀ (L : List Nat) (xs : List α), (mg_t cs L xs).length = xs.length := by
  intro L
  induction L with
  | nil => intro xs; rfl
  | cons t L ih =>
    intro xs
    cases xs with
    | nil => rfl
    | cons x xs =>
      cases t with
      | zero => exact congrArg Nat.succ (ih xs)
      | succ k => exact congrArg Nat.succ (ih xs)
theorem mg_st {ws w : va_W} {isW L : List Nat} (hn : va_nd isW = true) (hl : isW.length = w.length) (hL : L = (List.range ws.length).map (fun j => tp_at j isW)) : mg_t w L ws = st_all ws isW w := by
  refine List.ext_getElem? (fun j => ?_)
  by_cases hj : j < ws.length
  · have e : L[j]? = some (tp_at j isW) := by rw [hL, List.getElem?_map, List.getElem?_range hj]; rfl
    cases ht : tp_at j isW with
    | zero =>
      rw [ht] at e
      rw [mg_0 w L ws j e, st_out ws isW w j (tp_out isW j ht)]
    | succ k =>
      rw [ht] at e
      have hk := tp_in isW j k ht
      have q := st_in ws isW w k j hn hl hk hj
      obtain ⟨d, hd⟩ : ∃ d, (st_all ws isW w)[j]? = some d := ⟨_, List.getElem?_eq_getElem (by rw [st_len]; exact hj)⟩
      rw [hd] at q
      rw [hd, mg_1 w L ws j k d e q.symm hj]
  · have h : ws.length ≤ j := Nat.le_of_not_lt hj
    rw [List.getElem?_eq_none (by rw [mg_len]; exact h), List.getElem?_eq_none (by rw [st_len]; exact h)]
def lfC (n : Nat) (isR isW isB L : List Nat) : Bool := lfB n isR isW isB && decide (L = (List.range n).map (fun j => tp_at j isW))
section FT
variable {l : Launch} {y : MethodName} {wd : List Cond} {fr lo : Nat} {D : va_G} {ty : List (ClassId × FieldType)} {sq : Nat → Nat} {ws wc : va_W} {sz : Nat} {av : List Value}
theorem b_lfT {n : Nat} {post post' : Int32 → va_W → Prop} (h : mI l y wd fr lo D ty sq wc sz av post) (isC isR : List Nat) (hC : isC.map (fun i => ws[i]?) = wc.map some) (hn : ws.length = n) (hA : lfA n isC isR = true)
    (hc : ∀ (r : Int32) (w : va_W), post r w → ∃ isW isB L : List Nat, isW.length = w.length ∧ lfC n isR isW isB L = true ∧ post' r (mg_t w L ws)) : mI l y wd fr lo D ty sq ws sz av post' := by
  refine b_lfS h isC isR hC hn hA ?_
  intro r w hw
  obtain ⟨isW, isB, L, hl, hb, hp⟩ := hc r w hw
  unfold lfC at hb
  rw [Bool.and_eq_true, decide_eq_true_eq] at hb
  refine ⟨isW, isB, hl, hb.1, ?_⟩
  have hW : va_nd isW = true := by
    have z := hb.1
    unfold lfB at z
    simp only [Bool.and_eq_true] at z
    exact z.2.1
  rw [← mg_st (L := L) hW hl (by rw [hn]; exact hb.2)]
  exact hp
end FT
