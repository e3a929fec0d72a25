/-! a contract over a part of a world is one over the whole; the two worlds of the law side by side -/
section FR
variable {l : Launch} {y : MethodName} {wd wd' : List Cond} {fr lo : Nat} {D : va_G} {ty : List (ClassId × FieldType)} {sq : Nat → Nat} {ws wc wr : va_W} {sz : Nat} {av : List Value}
theorem b_frI {post : Int32 → va_W → Prop} (h : mI l y wd fr lo D ty sq wc sz av post) (isC isR : List Nat) (hC : isC.map (fun i => ws[i]?) = wc.map some) (hnC : va_nd isC = true) (hR : isR.map (fun i => ws[i]?) = wr.map some) (hn : va_nd isR = true) (hdis : ∀ i ∈ isR, i ∉ isC) :
    mI l y wd fr lo D ty sq ws sz av (fun r w => ∃ w', post r w' ∧ w = wr ++ w') := by
  refine MetFree.mono h ?_ (fun _ _ _ _ _ k => k) ?_
  · intro a s hp
    obtain ⟨rfl, hsz, hP, hK, hD, hT⟩ := hp
    have sub : ∀ q, va_A wc sz q → va_A ws sz q := by
      rw [← hsz]
      exact va_free (A0 := va_A ws s.heap.size) (H0 := s.heap) hD.self (va_S.rf (A := va_A ws s.heap.size) (H0 := s.heap)) (fun q h => Or.inr h) isC hC
    exact ⟨rfl, hsz, hP.sub isC (b_fm _ isC wc hC), hK, (hD.sub isC hnC hC).weaken (fun _ _ _ _ => trivial), sT.to (Vm.Alike.refl _) (fun _ _ _ => rfl) sub hT⟩
  · intro a s o t hp hq
    obtain ⟨rfl, hsz, hP, hK, hD, hT⟩ := hp
    obtain ⟨⟨⟨r, u, ho, hpost, hP1, hD1⟩, hF⟩, Lx, hFE, hLx⟩ := hq
    subst hsz
    have sub : ∀ q, va_A wc s.heap.size q → va_A ws s.heap.size q := va_free (A0 := va_A ws s.heap.size) (H0 := s.heap) hD.self (va_S.rf (A := va_A ws s.heap.size) (H0 := s.heap)) (fun q h => Or.inr h) isC hC
    have hJ := va_join (A0 := va_A ws s.heap.size) hP hD.self isC isR hC hR hn hdis hF.2 sub hP1 hD1
    exact ⟨⟨⟨r, wr ++ u, ho, ⟨u, hpost, rfl⟩, hJ.1, hJ.2⟩, hF.1, fun q h1 h2 => hF.2 q h1 (fun z => h2 (sub q z))⟩, Lx, hFE, fun q hq => sub _ (hLx q hq)⟩
theorem b_cvI {post post' : Int32 → va_W → Prop} (h : mI l y wd fr lo D ty sq ws sz av post) (hc : ∀ (r : Int32) (w : va_W), post r w → ∃ (is : List Nat) (w2 : va_W), va_nd is = true ∧ is.map (fun i => w[i]?) = w2.map some ∧ post' r w2) : mI l y wd fr lo D ty sq ws sz av post' := by
  refine MetFree.mono h (fun _ _ k => k) (fun _ _ _ _ _ k => k) ?_
  intro a s o t hp hq
  obtain ⟨⟨⟨r, u, ho, hpost, hP1, hD1⟩, hF⟩, hr⟩ := hq
  obtain ⟨is, w2, h1, h2, h3⟩ := hc r u hpost
  exact ⟨⟨⟨r, w2, ho, h3, hP1.sub is (b_fm _ is w2 h2), hD1.sub is h1 h2⟩, hF⟩, hr⟩
/-- from a part's contract to the whole world's, in the whole's own order -/
theorem b_lfI {post post' : Int32 → va_W → Prop} (h : mI l y wd fr lo D ty sq wc sz av post) (isC isR : List Nat) (hC : isC.map (fun i => ws[i]?) = wc.map some) (hnC : va_nd isC = true) (hR : isR.map (fun i => ws[i]?) = wr.map some) (hn : va_nd isR = true) (hdis : ∀ i ∈ isR, i ∉ isC)
    (hc : ∀ (r : Int32) (w : va_W), post r w → ∃ (is : List Nat) (w2 : va_W), va_nd is = true ∧ is.map (fun i => (wr ++ w)[i]?) = w2.map some ∧ post' r w2) : mI l y wd fr lo D ty sq ws sz av post' := by
  refine b_cvI (b_frI h isC isR hC hnC hR hn hdis) ?_
  intro r w hw
  obtain ⟨w', hw', rfl⟩ := hw
  exact hc r w' hw'
end FR
theorem rg_map : ∀ (w pre post : va_W), (List.range' pre.length w.length).map (fun i => (pre ++ (w ++ post))[i]?) = w.map some
  | [], _, _ => rfl
  | a :: w, pre, post => by
    have ih := rg_map w (pre ++ [a]) post
    rw [List.length_append, List.append_assoc] at ih
    rw [List.length_cons, List.range'_succ, List.map_cons, List.map_cons]
    refine congr (congrArg List.cons ?_) ih
    rw [List.getElem?_append_right (Nat.le_refl _), Nat.sub_self]
    rfl
theorem rg_nd : ∀ (n k : Nat), va_nd (List.range' k n) = true
  | 0, _ => rfl
  | n + 1, k => by
    rw [List.range'_succ]
    simp only [va_nd, Bool.and_eq_true, decide_eq_true_eq]
    refine ⟨fun h => ?_, rg_nd n (k + 1)⟩
    have h1 := List.mem_range'_1.mp h
    omega
theorem ap_L (wx wy : va_W) : (List.range' 0 wx.length).map (fun i => (wx ++ wy)[i]?) = wx.map some := rg_map wx [] wy
theorem ap_R (wx wy : va_W) : (List.range' wx.length wy.length).map (fun i => (wx ++ wy)[i]?) = wy.map some := by
  have h := rg_map wy wx []
  rw [List.append_nil] at h
  exact h
theorem ap_dis (wx wy : va_W) : ∀ i ∈ List.range' wx.length wy.length, i ∉ List.range' 0 wx.length := by
  intro i h1 h2
  have h3 := List.mem_range'_1.mp h1
  have h4 := List.mem_range'_1.mp h2
  omega
section LC
variable {p : Program} {l : Launch} {e : Env} {R : Room} {s : State} {m : MethodId} {args : Array Value} {below : List Frame} {meth : Method} {c : Code} {H : Heap} {locs : List Loc} {cells slots : Nat} {Q : State → Prop}
variable {D : va_G} {ty : List (ClassId × FieldType)} {sq : Nat → Nat} {wc wr : va_W} {cc : ByteArray} {nL : Nat} {Ts : List Cond} {own : String} {A : Nat → Prop} {pc : Nat} {ls : Array Slot} {rest st0 : List Value}
variable {y : MethodName} {wd wd' : List Cond} {fr lo n index maxL b : Nat} {bytes : ByteArray} {ret : Option FieldType} {As : List Value} {C : String}
/-- a call on the first of two worlds: the other stays, and what comes back stands behind it -/
theorem law_ci {post : Int32 → va_W → Prop} {ci : Nat} {T : u_T} {N : Nat} {fs : List Value} (hM : mI l y wd fr lo D ty sq wc H.size (.ref b :: As) post) (S : CallFix p m c cc nL s args Ts own) (hG : GoodIn Ts (wsV own index C y wd)) (hw : wd = Cond.code y bytes maxL ret :: wd') (hd : y.cls = C ∧ y.cls ≠ "java/lang/invoke/MethodHandle" ∧ y.cls ≠ "java/lang/invoke/VarHandle" ∧ (parseMethodDescriptor y.desc).map (fun d => d.parameters.length) = some n) (hRm : fr + 1 ≤ R.frames ∧ 8 + (maxL + 11) + lo ≤ R.locals) (hf : cells + 0 ≤ R.cells ∧ slots + 0 ≤ R.slots)
    (hK : kW D ty sq s) (hT : sT sq A s s.heap) (hS : va_S A s.heap H locs) (hA : ∀ q, s.heap.size ≤ q → A q) (hP : va_P D vwCl (wc ++ wr) H) (hD : va_D A (wc ++ wr)) (hc : vwCl[ci]? = some (C, T, N)) (he : wc[0]? = some (b, .inr (ci, fs)))
    (hAs : As.length = n) (hls : ls.size = nL) (hst : st0 = As.reverse ++ .ref b :: rest) (hcat : (rest.map fun v => v.category).sum ≤ 8) (hdg : decode cc pc = .ok (.invokevirtual index, 3))
    (kk : ∀ (r : Int32) (w : va_W) (H1 : Heap) (locs1 : List Loc), post r w → va_P D vwCl (wr ++ w) H1 → va_D A (wr ++ w) → va_S A s.heap H1 locs1 → W p l e R s m args below meth c H1 locs1 cells slots Q (F0 m (pc + 3) ls (.int r :: rest))) : W p l e R s m args below meth c H locs cells slots Q (F0 m pc ls st0) := by
  have he2 : (wc ++ wr)[0]? = some (b, .inr (ci, fs)) := by
    cases wc with
    | nil => simp at he
    | cons a t => exact he
  exact b_ai (wr := wr) (b_runV (q0 := 0) (ci := ci) (As := As) hM S hG hw hd hRm hf hK hT hS hA hP hD hc he2 (List.range' 0 wc.length) (ap_L wc wr) (rg_nd _ _) hAs hls hst hcat hdg) hP hD hS hA (List.range' 0 wc.length) (List.range' wc.length wr.length) (ap_L wc wr) (ap_R wc wr) (rg_nd _ _) (ap_dis wc wr) kk
end LC
