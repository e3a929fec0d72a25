-- the way home: states, steps, weights
def edT (g : Nat → Int) (n w : Int) : Int := if nxT g (n % 80) (w % 8) = -1 then -1 else if w < 8 then n - n % 80 + nxT g (n % 80) (w % 8) else if n < 80 then -1 else n - n % 80 - 80 + nxT g (n % 80) (w % 8)
def feT (g : Nat → Int) (p c w : Int) : Int := pyG g p (ownG g (lkS g c w)) (lkM g c w)
def ewT (g : Nat → Int) (p n w : Int) : Int := if w < 8 then 1024 * feT g p (n % 80) w + 1 else 1
def lx (f : Nat → Int32) (n : Int) : Int := (f n.toNat).toInt
def qp (qu : Nat → Int32) (hd i : Int) : Int := lx qu ((hd + i) % 480)
theorem lx_on {f : Nat → Int32} {i v : Int32} {n : Int} (h : i.toInt = n) : lx (upd f i.toNatClampNeg v) n = v.toInt := by
  have h3 : i.toNatClampNeg = i.toInt.toNat := rfl
  unfold lx
  rw [show upd f i.toNatClampNeg v n.toNat = v from if_pos (by omega)]
theorem lx_off {f : Nat → Int32} {i v : Int32} {n : Int} (h0 : 0 ≤ i.toInt) (hn : 0 ≤ n) (h : ¬ i.toInt = n) : lx (upd f i.toNatClampNeg v) n = lx f n := by
  have h3 : i.toNatClampNeg = i.toInt.toNat := rfl
  unfold lx
  rw [show upd f i.toNatClampNeg v n.toNat = f n.toNat from if_neg (by omega)]
theorem cnA_up {P Q : Nat → Prop} {k : Nat} (hP : ¬ P k) (hQ : Q k) (h : ∀ j : Nat, ¬ j = k → (P j ↔ Q j)) : ∀ n : Nat, (n ≤ k → cnA Q n = cnA P n) ∧ (k < n → cnA Q n = cnA P n + 1) := by
  intro n
  induction n with
  | zero => exact ⟨fun _ => rfl, fun z => absurd z (Nat.not_lt_zero _)⟩
  | succ n ih =>
    refine ⟨fun z => ?_, fun z => ?_⟩
    · show cnA Q n + ifP (Q n) 1 0 = cnA P n + ifP (P n) 1 0
      have e := h n (by omega)
      rw [ih.1 (by omega)]
      rcases Classical.em (P n) with q | q
      · rw [ifP_y q, ifP_y (e.mp q)]
      · rw [ifP_n q, ifP_n (fun y => q (e.mpr y))]
    · show cnA Q n + ifP (Q n) 1 0 = cnA P n + ifP (P n) 1 0 + 1
      by_cases w : n = k
      · rw [ih.1 (by omega), w, ifP_y hQ, ifP_n hP]
        omega
      · have e := h n w
        rw [ih.2 (by omega)]
        rcases Classical.em (P n) with q | q
        · rw [ifP_y q, ifP_y (e.mp q)]
        · rw [ifP_n q, ifP_n (fun y => q (e.mpr y))]; omega
theorem cnA_lt {P : Nat → Prop} {k : Nat} (hP : ¬ P k) : ∀ n : Nat, k < n → cnA P n + 1 ≤ n := by
  intro n
  induction n with
  | zero => intro z; exact absurd z (Nat.not_lt_zero _)
  | succ n ih =>
    intro z
    show cnA P n + ifP (P n) 1 0 + 1 ≤ ((n + 1 : Nat) : Int)
    by_cases w : n = k
    · have b := cnA_le (P := P) n
      rw [w, ifP_n hP]
      rw [w] at b
      omega
    · have b := ih (by omega)
      rcases Classical.em (P n) with q | q
      · rw [ifP_y q]; omega
      · rw [ifP_n q]; omega
/-- the queue: what is waiting, each once -/
def QI (N : Int) (qu qd : Nat → Int32) (wt hd tl : Int) : Prop := (0 ≤ hd ∧ hd < 480) ∧ tl = (hd + wt) % 480 ∧ wt = cnA (fun n => ¬ (qd n).toInt = 0) N.toNat ∧ (∀ i : Int, 0 ≤ i → i < wt → 0 ≤ qp qu hd i ∧ qp qu hd i < N ∧ ¬ lx qd (qp qu hd i) = 0) ∧ (∀ i j : Int, 0 ≤ i → i < j → j < wt → ¬ qp qu hd i = qp qu hd j) ∧ ∀ n : Int, 0 ≤ n → n < N → ¬ lx qd n = 0 → ∃ i : Int, 0 ≤ i ∧ i < wt ∧ qp qu hd i = n
theorem QI_b {N wt hd tl : Int} {qu qd : Nat → Int32} (h : QI N qu qd wt hd tl) (hN : 0 ≤ N) : 0 ≤ wt ∧ wt ≤ N := by
  have b := cnA_le (P := fun n => ¬ (qd n).toInt = 0) N.toNat
  have e := h.2.2.1
  omega
theorem QI_push {N wt hd tl tl2 : Int} {qu qd qu2 qd2 : Nat → Int32} {a k v : Int32} (h : QI N qu qd wt hd tl) (hN : 0 ≤ N ∧ N ≤ 480) (hk : 0 ≤ k.toInt ∧ k.toInt < N) (h0 : lx qd k.toInt = 0) (e1 : upd qd k.toNatClampNeg v = qd2) (hv : ¬ v.toInt = 0) (e2 : upd qu a.toNatClampNeg k = qu2) (ha : a.toInt = tl) (ht : tl2 = (tl + 1) % 480) : QI N qu2 qd2 (wt + 1) hd tl2 ∧ (∀ i : Int, 0 ≤ i → i < wt → qp qu2 hd i = qp qu hd i) ∧ qp qu2 hd wt = k.toInt := by
  have h3 : k.toNatClampNeg = k.toInt.toNat := rfl
  have b := QI_b h hN.1
  obtain ⟨q1, q2, q3, q4, q5, q6⟩ := h
  have hz : ¬ (fun n => ¬ (qd n).toInt = 0) k.toInt.toNat := fun z => z h0
  have lt := cnA_lt (P := fun n => ¬ (qd n).toInt = 0) (k := k.toInt.toNat) hz N.toNat (by omega)
  have po : ∀ i : Int, 0 ≤ i → i < wt → qp qu2 hd i = qp qu hd i := by
    intro i i0 i1
    unfold qp
    rw [← e2]
    exact lx_off (by omega) (by omega) (by omega)
  have pn : qp qu2 hd wt = k.toInt := by
    unfold qp
    rw [← e2]
    exact lx_on (by omega)
  have dk : lx qd2 k.toInt = v.toInt := by rw [← e1]; exact lx_on rfl
  have dn_ : ∀ n : Int, 0 ≤ n → ¬ k.toInt = n → lx qd2 n = lx qd n := fun n n0 hn => by rw [← e1]; exact lx_off hk.1 n0 hn
  refine ⟨⟨q1, by omega, ?_, ?_, ?_, ?_⟩, po, pn⟩
  · have u := (cnA_up (P := fun n => ¬ (qd n).toInt = 0) (Q := fun n => ¬ (qd2 n).toInt = 0) (k := k.toInt.toNat) hz (by show ¬ (qd2 k.toInt.toNat).toInt = 0; rw [show (qd2 k.toInt.toNat).toInt = v.toInt from dk]; exact hv) (fun j hj => by
      show ¬ (qd j).toInt = 0 ↔ ¬ (qd2 j).toInt = 0
      rw [← e1, show upd qd k.toNatClampNeg v j = qd j from if_neg (by omega)]) N.toNat).2 (by omega)
    omega
  · intro i i0 i1
    by_cases w : i = wt
    · rw [w, pn, dk]
      exact ⟨hk.1, hk.2, hv⟩
    · have z := q4 i i0 (by omega)
      rw [po i i0 (by omega)]
      refine ⟨z.1, z.2.1, ?_⟩
      by_cases y : k.toInt = qp qu hd i
      · rw [← y, dk]; exact hv
      · rw [dn_ _ z.1 y]; exact z.2.2
  · intro i j i0 ij j1
    rw [po i i0 (by omega)]
    by_cases w : j = wt
    · rw [w, pn]
      intro z
      have y := q4 i i0 (by omega)
      rw [z] at y
      exact y.2.2 h0
    · rw [po j (by omega) (by omega)]
      exact q5 i j i0 ij (by omega)
  · intro n n0 n1 hn
    by_cases w : k.toInt = n
    · exact ⟨wt, b.1, by omega, pn.trans w⟩
    · rw [dn_ n n0 w] at hn
      obtain ⟨i, i0, i1, i2⟩ := q6 n n0 n1 hn
      exact ⟨i, i0, by omega, (po i i0 i1).trans i2⟩
theorem QI_pop {N wt hd hd2 tl : Int} {qu qd qd2 : Nat → Int32} {k : Int32} (h : QI N qu qd wt hd tl) (hN : 0 ≤ N ∧ N ≤ 480) (hw : 0 < wt) (hk : k.toInt = qp qu hd 0) (e1 : upd qd k.toNatClampNeg 0 = qd2) (h2 : hd2 = (hd + 1) % 480) : QI N qu qd2 (wt - 1) hd2 tl ∧ (∀ i : Int, 0 ≤ i → i < wt - 1 → qp qu hd2 i = qp qu hd (i + 1)) ∧ (0 ≤ k.toInt ∧ k.toInt < N) ∧ ∀ i : Int, 0 ≤ i → i < wt - 1 → ¬ qp qu hd2 i = k.toInt := by
  have h3 : k.toNatClampNeg = k.toInt.toNat := rfl
  obtain ⟨q1, q2, q3, q4, q5, q6⟩ := h
  have k0 := q4 0 (Int.le_refl 0) hw
  rw [← hk] at k0
  have po : ∀ i : Int, 0 ≤ i → i < wt - 1 → qp qu hd2 i = qp qu hd (i + 1) := by
    intro i i0 i1
    unfold qp
    rw [h2, show ((hd + 1) % 480 + i) % 480 = (hd + (i + 1)) % 480 from by omega]
  have ne : ∀ i : Int, 0 ≤ i → i < wt - 1 → ¬ qp qu hd2 i = k.toInt := by
    intro i i0 i1 z
    rw [po i i0 i1, hk] at z
    exact q5 0 (i + 1) (Int.le_refl 0) (by omega) (by omega) z.symm
  have dk : lx qd2 k.toInt = 0 := by rw [← e1, lx_on rfl]; rfl
  have dn_ : ∀ n : Int, 0 ≤ n → ¬ k.toInt = n → lx qd2 n = lx qd n := fun n n0 hn => by rw [← e1]; exact lx_off k0.1 n0 hn
  refine ⟨⟨by omega, by omega, ?_, ?_, ?_, ?_⟩, po, ⟨k0.1, k0.2.1⟩, ne⟩
  · have u := (cnA_up (P := fun n => ¬ (qd2 n).toInt = 0) (Q := fun n => ¬ (qd n).toInt = 0) (k := k.toInt.toNat) (fun z => z dk) (by show ¬ (qd k.toInt.toNat).toInt = 0; exact k0.2.2) (fun j hj => by
      show ¬ (qd2 j).toInt = 0 ↔ ¬ (qd j).toInt = 0
      rw [← e1, show upd qd k.toNatClampNeg 0 j = qd j from if_neg (by omega)]) N.toNat).2 (by omega)
    omega
  · intro i i0 i1
    have z := q4 (i + 1) (by omega) (by omega)
    rw [← po i i0 i1] at z
    refine ⟨z.1, z.2.1, ?_⟩
    rw [dn_ _ z.1 (fun y => ne i i0 i1 y.symm)]
    exact z.2.2
  · intro i j i0 ij j1
    rw [po i i0 (by omega), po j (by omega) j1]
    exact q5 (i + 1) (j + 1) (by omega) (by omega) (by omega)
  · intro n n0 n1 hn
    have hnk : ¬ k.toInt = n := fun z => by rw [← z] at hn; exact hn dk
    rw [dn_ n n0 hnk] at hn
    obtain ⟨i, i0, i1, i2⟩ := q6 n n0 n1 hn
    have i3 : ¬ i = 0 := fun z => by rw [z, ← hk] at i2; exact hnk i2
    exact ⟨i - 1, by omega, by omega, by rw [po (i - 1) (by omega) (by omega), show i - 1 + 1 = i from by omega]; exact i2⟩
-- what the model's labels are, as one number
def YL (g : Nat → Int) (p N hm : Int) (Y : Int → Int) : Prop := (∀ n : Int, 0 ≤ n → n < N → 0 ≤ Y n ∧ (Y n = 1073741824 ∨ (Y n < 1073741824 ∧ Y n % 1024 ≤ 480 ∧ Y n ≤ 409601 * (Y n % 1024)))) ∧ (∀ n : Int, 0 ≤ n → n < N → n % 80 = hm → Y n = 0) ∧ (∀ n w : Int, 0 ≤ n → n < N → opK g (n % 80) → 0 ≤ w → w < 16 → 0 ≤ edT g n w → Y (edT g n w) < 1073741824 → Y n ≤ Y (edT g n w) + ewT g p n w) ∧ ∀ n : Int, 0 ≤ n → n < N → ¬ n % 80 = hm → Y n < 1073741824 → opK g (n % 80) ∧ ∃ w : Int, 0 ≤ w ∧ w < 16 ∧ 0 ≤ edT g n w ∧ Y (edT g n w) < 1073741824 ∧ Y n = Y (edT g n w) + ewT g p n w
/-- what was offered over the steps that lead to a state, as far as it was -/
def EIm (g : Nat → Int) (p N st : Int) (lf : Nat → Int32) (m i : Int) : Prop := ∀ w f : Int, 0 ≤ w → w < i → f = nxT g (m % 80) ((w + 4) % 8) → 0 ≤ f → (lx lf (m - m % 80 + f) ≤ lx lf m + (1024 * feT g p f w + 1) ∨ lx lf st ≤ lx lf m + (1024 * feT g p f w + 1)) ∧ (m + 80 < N → lx lf (m - m % 80 + 80 + f) ≤ lx lf m + 1 ∨ lx lf st ≤ lx lf m + 1)
theorem EIm_mono {g : Nat → Int} {p N st m i : Int} {lf lf2 : Nat → Int32} (h : EIm g p N st lf m i) (hd : ∀ n : Int, 0 ≤ n → lx lf2 n ≤ lx lf n) (hm : lx lf2 m = lx lf m) (h0 : 0 ≤ m ∧ 0 ≤ st) : EIm g p N st lf2 m i := by
  intro w f w0 w1 e f0
  have z := h w f w0 w1 e f0
  have a := hd (m - m % 80 + f) (by omega)
  have b := hd (m - m % 80 + 80 + f) (by omega)
  have c := hd st h0.2
  rw [hm]
  exact ⟨by omega, fun y => by have q := z.2 y; omega⟩
def SI (g : Nat → Int) (p N st : Int) (Y : Int → Int) (ph r : Int) (lf qu qd : Nat → Int32) (wt hd tl mx : Int) : Prop := QI N qu qd wt hd tl ∧ (∀ n : Int, 0 ≤ n → n < N → Y n ≤ lx lf n ∧ lx lf n ≤ 1073741824 ∧ (¬ lx qd n = 0 → lx lf n < 1073741824)) ∧ (∀ k : Int, 0 ≤ k → k < N → ¬ k = mx → lx qd k = 0 → lx lf k < 1073741824 → EIm g p N st lf k 8) ∧ (∀ k : Int, 0 ≤ k → k < N → Y k % 1024 < ph → Y k < lx lf st → Y k < 1073741824 → lx lf k = Y k ∧ ∀ i : Int, r ≤ i → i < wt → ¬ qp qu hd i = k) ∧ (0 ≤ r ∧ r ≤ wt) ∧ (481 ≤ ph → wt = r)
theorem lx_le {lf : Nat → Int32} {k we : Int32} (h0 : 0 ≤ k.toInt) (h : we.toInt ≤ lx lf k.toInt) : ∀ n : Int, 0 ≤ n → lx (upd lf k.toNatClampNeg we) n ≤ lx lf n := by
  intro n n0
  by_cases q : k.toInt = n
  · rw [lx_on q, ← q]; exact h
  · rw [lx_off h0 n0 q]; exact Int.le_refl _
/-- an offer that betters a label -/
theorem SI_offer {g : Nat → Int} {p N st ph r wt hd tl mx wt2 tl2 : Int} {Y : Int → Int} {lf qu qd lf2 qu2 qd2 : Nat → Int32} {k we : Int32} (h : SI g p N st Y ph r lf qu qd wt hd tl mx) (hN : 0 ≤ N ∧ N ≤ 480) (hs : 0 ≤ st ∧ st < N) (hy : ∀ n : Int, 0 ≤ n → n < N → Y n = 1073741824 ∨ Y n % 1024 ≤ 480) (hk : 0 ≤ k.toInt ∧ k.toInt < N) (hkm : ¬ k.toInt = mx) (hw : Y k.toInt ≤ we.toInt) (h1 : we.toInt < lx lf k.toInt) (h2 : we.toInt < lx lf st) (e : upd lf k.toNatClampNeg we = lf2) (hq : (¬ lx qd k.toInt = 0 ∧ qd2 = qd ∧ qu2 = qu ∧ wt2 = wt ∧ tl2 = tl) ∨ (lx qd k.toInt = 0 ∧ (∃ a v : Int32, upd qd k.toNatClampNeg v = qd2 ∧ ¬ v.toInt = 0 ∧ upd qu a.toNatClampNeg k = qu2 ∧ a.toInt = tl) ∧ wt2 = wt + 1 ∧ tl2 = (tl + 1) % 480)) : SI g p N st Y ph r lf2 qu2 qd2 wt2 hd tl2 mx := by
  obtain ⟨s1, s2, s3, s4, s5, s6⟩ := h
  have hd_ := lx_le hk.1 (Int.le_of_lt h1)
  rw [e] at hd_
  have b := s2 k.toInt hk.1 hk.2
  have lk : lx lf2 k.toInt = we.toInt := by rw [← e]; exact lx_on rfl
  have ln_ : ∀ n : Int, 0 ≤ n → ¬ k.toInt = n → lx lf2 n = lx lf n := fun n n0 hn => by rw [← e]; exact lx_off hk.1 n0 hn
  have hph : ph < 481 := by
    refine Int.lt_of_not_ge (fun z => ?_)
    have y := hy k.toInt hk.1 hk.2
    have q := (s4 k.toInt hk.1 hk.2 (by omega) (by omega) (by omega)).1
    omega
  have st2 := hd_ st hs.1
  have lb2 : ∀ n : Int, 0 ≤ n → n < N → Y n ≤ lx lf2 n ∧ lx lf2 n ≤ 1073741824 ∧ (¬ lx qd2 n = 0 → lx lf2 n < 1073741824) := by
    intro n n0 n1
    have z := s2 n n0 n1
    by_cases q : k.toInt = n
    · rw [← q, lk]
      rw [← q] at z
      exact ⟨by omega, by omega, fun _ => by omega⟩
    · rw [ln_ n n0 q]
      refine ⟨z.1, z.2.1, fun y => z.2.2 (fun x => y ?_)⟩
      rcases hq with ⟨_, c, _, _, _⟩ | ⟨_, ⟨a, v, c, _, _, _⟩, _, _⟩
      · rw [c]; exact x
      · rw [← c, lx_off hk.1 n0 q]; exact x
  have nk : ∀ n : Int, 0 ≤ n → n < N → Y n % 1024 < ph → Y n < lx lf2 st → Y n < 1073741824 → ¬ k.toInt = n := by
    intro n n0 n1 c1 c2 c3 q
    have z := (s4 n n0 n1 c1 (by omega) c3).1
    rw [← q] at z
    omega
  rcases hq with ⟨c0, rfl, rfl, rfl, rfl⟩ | ⟨c0, ⟨a, v, c1, c2, c3, c4⟩, rfl, rfl⟩
  · refine ⟨s1, lb2, ?_, ?_, s5, s6⟩
    · intro n n0 n1 nm nq nf
      have q : ¬ k.toInt = n := fun z => by rw [← z] at nq; exact c0 nq
      rw [ln_ n n0 q] at nf
      exact EIm_mono (s3 n n0 n1 nm nq nf) hd_ (ln_ n n0 q) ⟨n0, hs.1⟩
    · intro n n0 n1 d1 d2 d3
      have q := nk n n0 n1 d1 d2 d3
      rw [ln_ n n0 q]
      exact s4 n n0 n1 d1 (by omega) d3
  · have pu := QI_push (tl2 := (tl + 1) % 480) s1 hN hk c0 c1 c2 c3 c4 rfl
    refine ⟨pu.1, lb2, ?_, ?_, by omega, fun z => absurd z (by omega)⟩
    · intro n n0 n1 nm nq nf
      have q : ¬ k.toInt = n := fun z => by
        rw [← z, ← c1, lx_on rfl] at nq
        exact c2 nq
      rw [ln_ n n0 q] at nf
      rw [← c1, lx_off hk.1 n0 q] at nq
      exact EIm_mono (s3 n n0 n1 nm nq nf) hd_ (ln_ n n0 q) ⟨n0, hs.1⟩
    · intro n n0 n1 d1 d2 d3
      have q := nk n n0 n1 d1 d2 d3
      rw [ln_ n n0 q]
      have z := s4 n n0 n1 d1 (by omega) d3
      refine ⟨z.1, fun i i0 i1 => ?_⟩
      by_cases y : i = wt
      · rw [y, pu.2.2]; exact q
      · rw [pu.2.1 i (by omega) (by omega)]
        exact z.2 i i0 (by omega)
theorem nx_sym {g : Nat → Int} {c w f : Int} (hg : gB g) (hc : opK g c) (hw : 0 ≤ w ∧ w < 8) (e : nxT g c w = f) (hf : 0 ≤ f) : nxT g f ((w + 4) % 8) = c ∧ opK g f ∧ f < 80 := by
  have b := insK_80 hg hc.1
  have k := hc.1
  unfold insK at k
  unfold nxT at e
  by_cases q : 0 ≤ nbT (g 0) (g 1) c w ∧ g (4 + (nbT (g 0) (g 1) c w).toNat) = -3
  · rw [if_pos q] at e
    have kf := nbT_in hg.1 q.1
    have o := q.2
    rw [e] at kf o
    have bf := insK_80 hg kf
    refine ⟨?_, ⟨kf, o⟩, bf.2⟩
    have e1 := eES hw
    have e2 := eES (y := (w + 4) % 8) (by omega)
    have hn : nbT (g 0) (g 1) f ((w + 4) % 8) = c := by
      have hg1 := hg.1
      have hg2 := hg.2
      unfold nbT at e ⊢
      split at e
      · rw [if_pos (by omega)]
        omega
      · omega
    unfold nxT
    rw [hn, if_pos ⟨b.1, hc.2⟩]
  · rw [if_neg q] at e
    omega
theorem ed_lo {g : Nat → Int} {n w m : Int} (hg : gB g) (hn : 0 ≤ n) (ho : opK g (n % 80)) (hw : 0 ≤ w ∧ w < 8) (e : m = edT g n w) (hm : 0 ≤ m) : nxT g (m % 80) ((w + 4) % 8) = n % 80 ∧ n = m - m % 80 + n % 80 ∧ opK g (m % 80) := by
  unfold edT at e
  rw [show w % 8 = w from by omega] at e
  by_cases q : nxT g (n % 80) w = -1
  · rw [if_pos q] at e; omega
  · rw [if_neg q, if_pos hw.2] at e
    have r : 0 ≤ nxT g (n % 80) w := by
      unfold nxT at q ⊢
      split
      · next z => exact z.1
      · next z => rw [if_neg z] at q; exact absurd rfl q
    have s := nx_sym hg ho hw rfl r
    have x : m % 80 = nxT g (n % 80) w := by omega
    rw [x]
    exact ⟨s.1, by omega, s.2.1⟩
theorem ed_hi {g : Nat → Int} {n w m : Int} (hg : gB g) (hn : 0 ≤ n) (ho : opK g (n % 80)) (hw : 8 ≤ w ∧ w < 16) (e : m = edT g n w) (hm : 0 ≤ m) : nxT g (m % 80) ((w - 8 + 4) % 8) = n % 80 ∧ n = m - m % 80 + 80 + n % 80 ∧ opK g (m % 80) := by
  unfold edT at e
  rw [show w % 8 = w - 8 from by omega] at e
  by_cases q : nxT g (n % 80) (w - 8) = -1
  · rw [if_pos q] at e; omega
  · rw [if_neg q, if_neg (by omega)] at e
    have r : 0 ≤ nxT g (n % 80) (w - 8) := by
      unfold nxT at q ⊢
      split
      · next z => exact z.1
      · next z => rw [if_neg z] at q; exact absurd rfl q
    have s := nx_sym hg ho (by omega) rfl r
    by_cases y : n < 80
    · rw [if_pos y] at e; omega
    · rw [if_neg y] at e
      have x : m % 80 = nxT g (n % 80) (w - 8) := by omega
      rw [x]
      exact ⟨s.1, by omega, s.2.1⟩
/-- over a step that was offered -/
theorem EI_use {g : Nat → Int} {p N st n w m : Int} {lf : Nat → Int32} (hg : gB g) (h8 : N % 80 = 0) (h : EIm g p N st lf m 8) (hn : 0 ≤ n ∧ n < N) (ho : opK g (n % 80)) (hw : 0 ≤ w ∧ w < 16) (e : m = edT g n w) (hm : 0 ≤ m) : lx lf n ≤ lx lf m + ewT g p n w ∨ lx lf st ≤ lx lf m + ewT g p n w := by
  by_cases q : w < 8
  · have a := ed_lo hg hn.1 ho ⟨hw.1, q⟩ e hm
    have z := (h w (n % 80) hw.1 q a.1.symm (by omega)).1
    rw [← a.2.1] at z
    unfold ewT
    rw [if_pos q]
    exact z
  · have a := ed_hi hg hn.1 ho ⟨by omega, hw.2⟩ e hm
    have z := (h (w - 8) (n % 80) (by omega) (by omega) a.1.symm (by omega)).2 (by omega)
    rw [← a.2.1] at z
    unfold ewT
    rw [if_neg q]
    exact z
def feN (g : Nat → Int) (p : Int) : Prop := ∀ c w : Int, 0 ≤ c → c < 80 → 0 ≤ w → w < 8 → 0 ≤ feT g p c w
theorem ewN {g : Nat → Int} {p n w : Int} (hf : feN g p) (hw : 0 ≤ w) : 1 ≤ ewT g p n w ∧ ewT g p n w % 1024 = 1 := by
  unfold ewT
  split
  · next q =>
    have z := hf (n % 80) w (by omega) (by omega) hw q
    omega
  · omega
/-- a phase ends: the next begins -/
theorem SI_phase {g : Nat → Int} {p N st hm ph wt hd tl : Int} {Y : Int → Int} {lf qu qd : Nat → Int32} (h : SI g p N st Y ph 0 lf qu qd wt hd tl (-1)) (hg : gB g) (hf : feN g p) (hY : YL g p N hm Y) (h8 : N % 80 = 0) (hp : 1 ≤ ph) : SI g p N st Y (ph + 1) wt lf qu qd wt hd tl (-1) := by
  obtain ⟨s1, s2, s3, s4, s5, s6⟩ := h
  refine ⟨s1, s2, s3, ?_, ⟨s5.2, Int.le_refl _⟩, fun _ => rfl⟩
  intro k k0 k1 d1 d2 d3
  refine ⟨?_, fun i i0 i1 => absurd i1 (by omega)⟩
  by_cases q : Y k % 1024 < ph
  · exact (s4 k k0 k1 q d2 d3).1
  · have b := s2 k k0 k1
    have nh : ¬ k % 80 = hm := fun z => by
      have y := hY.2.1 k k0 k1 z
      rw [y] at q
      omega
    obtain ⟨ho, w, w0, w1, m0, m1, m2⟩ := hY.2.2.2 k k0 k1 nh d3
    obtain ⟨m, em⟩ : ∃ m, m = edT g k w := ⟨_, rfl⟩
    rw [← em] at m0 m1 m2
    have ew := ewN (n := k) hf w0
    have mN : m < N := by
      by_cases y : w < 8
      · have a := ed_lo hg k0 ho ⟨w0, y⟩ em m0
        have c := insK_80 hg a.2.2.1
        have c2 := insK_80 hg ho.1
        omega
      · have a := ed_hi hg k0 ho ⟨by omega, w1⟩ em m0
        omega
    have ym := hY.1 m m0 mN
    have dm : Y m % 1024 < ph := by omega
    have xm := s4 m m0 mN dm (by omega) m1
    have qm : lx qd m = 0 := by
      refine Classical.byContradiction (fun z => ?_)
      obtain ⟨i, i0, i1, i2⟩ := s1.2.2.2.2.2 m m0 mN z
      exact xm.2 i i0 i1 i2
    have u := EI_use hg h8 (s3 m m0 mN (by omega) qm (by omega)) ⟨k0, k1⟩ ho ⟨w0, w1⟩ em m0
    omega
theorem SI_pop {g : Nat → Int} {p N st ph r wt hd hd2 tl : Int} {Y : Int → Int} {lf qu qd qd2 : Nat → Int32} {k : Int32} (h : SI g p N st Y ph r lf qu qd wt hd tl (-1)) (hN : 0 ≤ N ∧ N ≤ 480) (hw : 0 < wt) (hr : 1 ≤ r) (hk : k.toInt = qp qu hd 0) (e1 : upd qd k.toNatClampNeg 0 = qd2) (h2 : hd2 = (hd + 1) % 480) : SI g p N st Y ph (r - 1) lf qu qd2 (wt - 1) hd2 tl k.toInt ∧ (0 ≤ k.toInt ∧ k.toInt < N) ∧ lx lf k.toInt < 1073741824 := by
  obtain ⟨s1, s2, s3, s4, s5, s6⟩ := h
  have po := QI_pop s1 hN hw hk e1 h2
  have b := po.2.2.1
  have kq : ¬ lx qd k.toInt = 0 := by
    have z := (s1.2.2.2.1 0 (Int.le_refl 0) hw).2.2
    rw [← hk] at z
    exact z
  refine ⟨⟨po.1, ?_, ?_, ?_, by omega, fun z => by have y := s6 z; omega⟩, b, (s2 k.toInt b.1 b.2).2.2 kq⟩
  · intro n n0 n1
    have z := s2 n n0 n1
    refine ⟨z.1, z.2.1, fun y => z.2.2 (fun x => y ?_)⟩
    by_cases q : k.toInt = n
    · rw [← e1, lx_on q]; rfl
    · rw [← e1, lx_off b.1 n0 q]; exact x
  · intro n n0 n1 nm nq nf
    rw [← e1, lx_off b.1 n0 (fun z => nm z.symm)] at nq
    exact s3 n n0 n1 (by omega) nq nf
  · intro n n0 n1 d1 d2 d3
    have z := s4 n n0 n1 d1 d2 d3
    refine ⟨z.1, fun i i0 i1 => ?_⟩
    rw [po.2.1 i (by omega) i1]
    exact z.2 (i + 1) (by omega) (by omega)
theorem SI_back {g : Nat → Int} {p N st ph r wt hd tl mx : Int} {Y : Int → Int} {lf qu qd : Nat → Int32} (h : SI g p N st Y ph r lf qu qd wt hd tl mx) (he : EIm g p N st lf mx 8) : SI g p N st Y ph r lf qu qd wt hd tl (-1) := by
  obtain ⟨s1, s2, s3, s4, s5, s6⟩ := h
  refine ⟨s1, s2, ?_, s4, s5, s6⟩
  intro n n0 n1 nm nq nf
  by_cases q : n = mx
  · rw [q]; exact he
  · exact s3 n n0 n1 q nq nf
/-- nothing waits: the labels that matter are the least -/
theorem SI_end {g : Nat → Int} {p N st hm ph r hd tl : Int} {Y : Int → Int} {lf qu qd : Nat → Int32} (h : SI g p N st Y ph r lf qu qd 0 hd tl (-1)) (hg : gB g) (hf : feN g p) (hY : YL g p N hm Y) (h8 : N % 80 = 0) (hp : 1 ≤ ph) (hs : 0 ≤ st ∧ st < N) : ∀ (y : Nat) (k : Int), 0 ≤ k → k < N → (Y k < Y st ∨ k = st) → Y k < 1073741824 → (Y k).toNat ≤ y → lx lf k = Y k := by
  obtain ⟨s1, s2, s3, s4, s5, s6⟩ := h
  have bst := s2 st hs.1 hs.2
  have q0 : ∀ n : Int, 0 ≤ n → n < N → lx qd n = 0 := by
    intro n n0 n1
    refine Classical.byContradiction (fun z => ?_)
    obtain ⟨i, i0, i1, i2⟩ := s1.2.2.2.2.2 n n0 n1 z
    omega
  have hom : ∀ k : Int, 0 ≤ k → k < N → (Y k < Y st ∨ k = st) → Y k = 0 → lx lf k = Y k := by
    intro k k0 k1 hk z
    by_cases c : 0 < lx lf st
    · exact (s4 k k0 k1 (by omega) (by omega) (by omega)).1
    · have y := (hY.1 st hs.1 hs.2).1
      rcases hk with q | q
      · omega
      · rw [q]; omega
  intro y
  induction y with
  | zero =>
    intro k k0 k1 hk hfk hy
    have z := (hY.1 k k0 k1).1
    exact hom k k0 k1 hk (by omega)
  | succ y ih =>
    intro k k0 k1 hk hfk hy
    have b := s2 k k0 k1
    by_cases nh : k % 80 = hm
    · exact hom k k0 k1 hk (hY.2.1 k k0 k1 nh)
    · obtain ⟨ho, w, w0, w1, m0, m1, m2⟩ := hY.2.2.2 k k0 k1 nh hfk
      obtain ⟨m, em⟩ : ∃ m, m = edT g k w := ⟨_, rfl⟩
      rw [← em] at m0 m1 m2
      have ew := ewN (n := k) hf w0
      have mN : m < N := by
        by_cases y : w < 8
        · have a := ed_lo hg k0 ho ⟨w0, y⟩ em m0
          have c := insK_80 hg a.2.2.1
          have c2 := insK_80 hg ho.1
          omega
        · have a := ed_hi hg k0 ho ⟨by omega, w1⟩ em m0
          omega
      have ys : Y k ≤ Y st := by
        rcases hk with q | q
        · omega
        · rw [q]; exact Int.le_refl _
      have ym := (hY.1 m m0 mN).1
      have xm := ih m m0 mN (Or.inl (by omega)) m1 (by omega)
      have u := EI_use hg h8 (s3 m m0 mN (by omega) (q0 m m0 mN) (by omega)) ⟨k0, k1⟩ ho ⟨w0, w1⟩ em m0
      rcases hk with q | q
      · omega
      · rw [q] at u b ⊢
        rw [q] at m2
        omega
theorem YL_hy {g : Nat → Int} {p N hm : Int} {Y : Int → Int} (h : YL g p N hm Y) : ∀ n : Int, 0 ≤ n → n < N → Y n = 1073741824 ∨ Y n % 1024 ≤ 480 := by
  intro n n0 n1
  have z := h.1 n n0 n1
  omega
/-- what an offer does -/
def OFr (lf qu qd : Nat → Int32) (wt tl st : Int) (k we : Int32) (lf2 qu2 qd2 : Nat → Int32) (wt2 tl2 : Int) : Prop := ((lx lf k.toInt ≤ we.toInt ∨ lx lf st ≤ we.toInt) ∧ lf2 = lf ∧ qu2 = qu ∧ qd2 = qd ∧ wt2 = wt ∧ tl2 = tl) ∨ ((we.toInt < lx lf k.toInt ∧ we.toInt < lx lf st) ∧ upd lf k.toNatClampNeg we = lf2 ∧ ((¬ lx qd k.toInt = 0 ∧ qd2 = qd ∧ qu2 = qu ∧ wt2 = wt ∧ tl2 = tl) ∨ (lx qd k.toInt = 0 ∧ (∃ a v : Int32, upd qd k.toNatClampNeg v = qd2 ∧ ¬ v.toInt = 0 ∧ upd qu a.toNatClampNeg k = qu2 ∧ a.toInt = tl) ∧ wt2 = wt + 1 ∧ tl2 = (tl + 1) % 480)))
theorem SI_of {g : Nat → Int} {p N st ph r wt hd tl mx wt2 tl2 : Int} {Y : Int → Int} {lf qu qd lf2 qu2 qd2 : Nat → Int32} {k we : Int32} (h : SI g p N st Y ph r lf qu qd wt hd tl mx) (o : OFr lf qu qd wt tl st k we lf2 qu2 qd2 wt2 tl2) (hN : 0 ≤ N ∧ N ≤ 480) (hs : 0 ≤ st ∧ st < N) (hy : ∀ n : Int, 0 ≤ n → n < N → Y n = 1073741824 ∨ Y n % 1024 ≤ 480) (hk : 0 ≤ k.toInt ∧ k.toInt < N) (hkm : ¬ k.toInt = mx) (hw : we.toInt < 1073741824 → Y k.toInt ≤ we.toInt) : SI g p N st Y ph r lf2 qu2 qd2 wt2 hd tl2 mx ∧ (lx lf2 k.toInt ≤ we.toInt ∨ lx lf2 st ≤ we.toInt) ∧ (∀ n : Int, 0 ≤ n → lx lf2 n ≤ lx lf n) ∧ ∀ n : Int, 0 ≤ n → ¬ k.toInt = n → lx lf2 n = lx lf n := by
  rcases o with ⟨o1, rfl, rfl, rfl, rfl, rfl⟩ | ⟨o1, o2, o3⟩
  · exact ⟨h, o1, fun _ _ => Int.le_refl _, fun _ _ _ => rfl⟩
  · have b := (h.2.1 k.toInt hk.1 hk.2).2.1
    refine ⟨SI_offer h hN hs hy hk hkm (hw (by omega)) o1.1 o1.2 o2 o3, Or.inl ?_, ?_, fun n n0 hn => ?_⟩
    · rw [← o2, lx_on rfl]; exact Int.le_refl _
    · rw [← o2]; exact lx_le hk.1 (Int.le_of_lt o1.1)
    · rw [← o2]; exact lx_off hk.1 n0 hn
/-- the least label's step leads over the steps that are offered -/
theorem Y_from {g : Nat → Int} {p N hm m w f : Int} {Y : Int → Int} (hg : gB g) (hY : YL g p N hm Y) (hh : opK g hm) (h8 : N % 80 = 0) (hm_ : 0 ≤ m ∧ m < N) (hy : Y m < 1073741824) (hw : 0 ≤ w ∧ w < 8) (e : f = nxT g (m % 80) ((w + 4) % 8)) (hf : 0 ≤ f) : f < 80 ∧ Y (m - m % 80 + f) ≤ Y m + (1024 * feT g p f w + 1) ∧ (m + 80 < N → Y (m - m % 80 + 80 + f) ≤ Y m + 1) ∧ ¬ f = m % 80 := by
  have om : opK g (m % 80) := by
    by_cases q : m % 80 = hm
    · rw [q]; exact hh
    · exact (hY.2.2.2 m hm_.1 hm_.2 q hy).1
  have s := nx_sym hg om (w := (w + 4) % 8) (by omega) e.symm hf
  rw [show ((w + 4) % 8 + 4) % 8 = w from by omega] at s
  have c := insK_80 hg om.1
  have ne : ¬ f = m % 80 := by
    intro z
    have x := s.1
    unfold nxT at x
    split at x
    · next y =>
      have m1 := nb_mono (w := g 0) (h := g 1) (a := f) (y := w) hg.1 hg.2 ⟨hf, s.2.2⟩ hw
      omega
    · omega
  have f1 : (m - m % 80 + f) % 80 = f := by omega
  have f2 : (m - m % 80 + 80 + f) % 80 = f := by omega
  refine ⟨s.2.2, ?_, fun y => ?_, ne⟩
  · have ed : edT g (m - m % 80 + f) w = m := by
      unfold edT
      rw [f1, show w % 8 = w from by omega, s.1, if_neg (by omega), if_pos hw.2]
      omega
    have z := hY.2.2.1 (m - m % 80 + f) w (by omega) (by omega) (by rw [f1]; exact s.2.1) hw.1 (by omega) (by rw [ed]; exact hm_.1) (by rw [ed]; exact hy)
    rw [ed] at z
    unfold ewT at z
    rw [f1, if_pos hw.2] at z
    exact z
  · have ed : edT g (m - m % 80 + 80 + f) (w + 8) = m := by
      unfold edT
      rw [f2, show (w + 8) % 8 = w from by omega, s.1, if_neg (by omega), if_neg (by omega), if_neg (by omega)]
      omega
    have z := hY.2.2.1 (m - m % 80 + 80 + f) (w + 8) (by omega) (by omega) (by rw [f2]; exact s.2.1) (by omega) (by omega) (by rw [ed]; exact hm_.1) (by rw [ed]; exact hy)
    rw [ed] at z
    unfold ewT at z
    rw [if_neg (by omega)] at z
    exact z
-- the least weights: that there are such, and only one
def wkR (g : Nat → Int) (p hm : Int) : Nat → Int → Int → Prop
  | 0, n, c => n % 80 = hm ∧ c = 0
  | s + 1, n, c => opK g (n % 80) ∧ ∃ w : Int, 0 ≤ w ∧ w < 16 ∧ 0 ≤ edT g n w ∧ wkR g p hm s (edT g n w) (c - ewT g p n w)
theorem wkR_nn {g : Nat → Int} {p hm : Int} (hf : feN g p) : ∀ (s : Nat) (n c : Int), wkR g p hm s n c → 0 ≤ c := by
  intro s
  induction s with
  | zero => intro n c h; have z := h.2; omega
  | succ s ih =>
    intro n c h
    obtain ⟨_, w, w0, _, _, h5⟩ := h
    have a := ih _ _ h5
    have b := ewN (n := n) hf w0
    omega
theorem least {P : Nat → Prop} : ∀ n : Nat, P n → ∃ m : Nat, P m ∧ ∀ k : Nat, P k → m ≤ k := by
  intro n
  induction n using Nat.strongRecOn with
  | ind n ih =>
    intro h
    by_cases q : ∃ k : Nat, P k ∧ k < n
    · obtain ⟨k, h1, h2⟩ := q
      exact ih k h2 h1
    · exact ⟨n, h, fun k hk => Nat.le_of_not_lt (fun z => q ⟨k, hk, z⟩)⟩
def wkP (g : Nat → Int) (p hm n : Int) (c : Nat) : Prop := ∃ s : Nat, wkR g p hm s n (c : Int)
theorem Y_ex (g : Nat → Int) (p hm n : Int) : ∃ y : Int, (∃ c : Nat, wkP g p hm n c ∧ y = c ∧ ∀ k : Nat, wkP g p hm n k → c ≤ k) ∨ ((¬ ∃ c : Nat, wkP g p hm n c) ∧ y = 1073741824) := by
  by_cases q : ∃ c : Nat, wkP g p hm n c
  · obtain ⟨c, hc⟩ := q
    obtain ⟨m, h1, h2⟩ := least c hc
    exact ⟨m, Or.inl ⟨m, h1, rfl, h2⟩⟩
  · exact ⟨_, Or.inr ⟨q, rfl⟩⟩
noncomputable def Yd (g : Nat → Int) (p hm n : Int) : Int := Classical.choose (Y_ex g p hm n)
theorem Yd_s (g : Nat → Int) (p hm n : Int) : (∃ c : Nat, wkP g p hm n c ∧ Yd g p hm n = c ∧ ∀ k : Nat, wkP g p hm n k → c ≤ k) ∨ ((¬ ∃ c : Nat, wkP g p hm n c) ∧ Yd g p hm n = 1073741824) := Classical.choose_spec (Y_ex g p hm n)
theorem Yd_le {g : Nat → Int} {p hm n c : Int} {s : Nat} (hf : feN g p) (h : wkR g p hm s n c) : Yd g p hm n ≤ c ∧ ∃ k : Nat, wkP g p hm n k ∧ Yd g p hm n = k := by
  have c0 := wkR_nn hf s n c h
  have hc : wkP g p hm n c.toNat := ⟨s, by rw [show ((c.toNat : Nat) : Int) = c from by omega]; exact h⟩
  rcases Yd_s g p hm n with ⟨k, k1, k2, k3⟩ | ⟨k1, _⟩
  · have z := k3 _ hc
    exact ⟨by omega, k, k1, k2⟩
  · exact absurd ⟨_, hc⟩ k1
theorem Yd_hom {g : Nat → Int} {p hm n : Int} (hf : feN g p) (h : n % 80 = hm) : Yd g p hm n = 0 := by
  have z := Yd_le (s := 0) (c := 0) hf ⟨h, rfl⟩
  obtain ⟨z1, k, _, z2⟩ := z
  omega
theorem Yd_fin {g : Nat → Int} {p hm n : Int} (h : ∃ k : Nat, wkP g p hm n k) : ∃ k : Nat, wkP g p hm n k ∧ Yd g p hm n = k ∧ ∀ j : Nat, wkP g p hm n j → k ≤ j := by
  rcases Yd_s g p hm n with ⟨k, k1, k2, k3⟩ | ⟨k1, _⟩
  · exact ⟨k, k1, k2, k3⟩
  · exact absurd h k1
theorem Yd_st {g : Nat → Int} {p hm n w : Int} (hf : feN g p) (ho : opK g (n % 80)) (hw : 0 ≤ w ∧ w < 16) (he : 0 ≤ edT g n w) (hm_ : ∃ k : Nat, wkP g p hm (edT g n w) k) : (∃ k : Nat, wkP g p hm n k) ∧ Yd g p hm n ≤ Yd g p hm (edT g n w) + ewT g p n w := by
  obtain ⟨k, ⟨s, k1⟩, k2, _⟩ := Yd_fin hm_
  have z : wkR g p hm (s + 1) n ((k : Int) + ewT g p n w) := ⟨ho, w, hw.1, hw.2, he, by rw [show (k : Int) + ewT g p n w - ewT g p n w = k from by omega]; exact k1⟩
  have y := Yd_le hf z
  obtain ⟨y1, j, y2, _⟩ := y
  exact ⟨⟨j, y2⟩, by rw [k2]; exact y1⟩
theorem Yd_pr {g : Nat → Int} {p hm n : Int} (hf : feN g p) (hn : ¬ n % 80 = hm) (h : ∃ k : Nat, wkP g p hm n k) : opK g (n % 80) ∧ ∃ w : Int, 0 ≤ w ∧ w < 16 ∧ 0 ≤ edT g n w ∧ (∃ k : Nat, wkP g p hm (edT g n w) k) ∧ Yd g p hm n = Yd g p hm (edT g n w) + ewT g p n w := by
  obtain ⟨k, ⟨s, k1⟩, k2, k3⟩ := Yd_fin h
  cases s with
  | zero => exact absurd k1.1 hn
  | succ s =>
    obtain ⟨ho, w, w0, w1, e0, r⟩ := k1
    have z := Yd_le hf r
    obtain ⟨z1, j, z2, z3⟩ := z
    have y := (Yd_st hf ho ⟨w0, w1⟩ e0 ⟨j, z2⟩).2
    exact ⟨ho, w, w0, w1, e0, ⟨j, z2⟩, by omega⟩
def feB (g : Nat → Int) (p : Int) : Prop := ∀ c w : Int, 0 ≤ c → c < 80 → 0 ≤ w → w < 8 → 0 ≤ feT g p c w ∧ feT g p c w ≤ 400
theorem feB_N {g : Nat → Int} {p : Int} (h : feB g p) : feN g p := fun c w a b d e => (h c w a b d e).1
theorem ed_N {g : Nat → Int} {N n w m : Int} (hg : gB g) (h8 : N % 80 = 0) (hn : 0 ≤ n ∧ n < N) (ho : opK g (n % 80)) (hw : 0 ≤ w ∧ w < 16) (e : m = edT g n w) (hm : 0 ≤ m) : m < N := by
  have c2 := insK_80 hg ho.1
  by_cases y : w < 8
  · have a := ed_lo hg hn.1 ho ⟨hw.1, y⟩ e hm
    have c := insK_80 hg a.2.2.1
    omega
  · have a := ed_hi hg hn.1 ho ⟨by omega, hw.2⟩ e hm
    omega
/-- how many states have a lesser label -/
noncomputable def lsN (N : Int) (Y : Int → Int) (n : Int) : Int := cnA (fun j : Nat => Y j < Y n) N.toNat
theorem lsN_lt {N : Int} {Y : Int → Int} {n m : Int} (hm : 0 ≤ m ∧ m < N) (h : Y m < Y n) : lsN N Y m + 1 ≤ lsN N Y n := by
  have key : ∀ k : Nat, (cnA (fun j : Nat => Y j < Y m) k ≤ cnA (fun j : Nat => Y j < Y n) k) ∧ (m.toNat < k → cnA (fun j : Nat => Y j < Y m) k + 1 ≤ cnA (fun j : Nat => Y j < Y n) k) := by
    intro k
    induction k with
    | zero => exact ⟨Int.le_refl 0, fun z => absurd z (Nat.not_lt_zero _)⟩
    | succ k ih =>
      have s1 : ifP (Y (k : Int) < Y m) (1 : Int) 0 ≤ ifP (Y (k : Int) < Y n) 1 0 := by
        rcases Classical.em (Y (k : Int) < Y m) with q | q
        · rw [ifP_y q, ifP_y (show Y (k : Int) < Y n by omega)]; exact Int.le_refl _
        · rw [ifP_n q]
          rcases Classical.em (Y (k : Int) < Y n) with z | z
          · rw [ifP_y z]; decide
          · rw [ifP_n z]; decide
      refine ⟨?_, fun z => ?_⟩
      · show cnA (fun j : Nat => Y j < Y m) k + ifP (Y (k : Int) < Y m) 1 0 ≤ cnA (fun j : Nat => Y j < Y n) k + ifP (Y (k : Int) < Y n) 1 0
        have a := ih.1
        omega
      · show cnA (fun j : Nat => Y j < Y m) k + ifP (Y (k : Int) < Y m) 1 0 + 1 ≤ cnA (fun j : Nat => Y j < Y n) k + ifP (Y (k : Int) < Y n) 1 0
        by_cases y : m.toNat = k
        · have em : (k : Int) = m := by omega
          have a := ih.1
          rw [em, ifP_n (show ¬ Y m < Y m by omega), ifP_y h]
          omega
        · have a := ih.2 (by omega)
          omega
  exact (key N.toNat).2 (by omega)
theorem lsN_b {N : Int} {Y : Int → Int} {n : Int} (hn : 0 ≤ n ∧ n < N) : 0 ≤ lsN N Y n ∧ lsN N Y n + 1 ≤ N := by
  have a := cnA_le (P := fun j : Nat => Y j < Y n) N.toNat
  have b := cnA_lt (P := fun j : Nat => Y j < Y n) (k := n.toNat) (fun z => by
    have e : ((n.toNat : Nat) : Int) = n := by omega
    have y : Y ((n.toNat : Nat) : Int) < Y n := z
    rw [e] at y
    omega) N.toNat (by omega)
  unfold lsN
  omega
theorem Yd_b {g : Nat → Int} {p N hm : Int} (hg : gB g) (hf : feB g p) (h8 : N % 80 = 0) (hN : N ≤ 480) : ∀ (y : Nat) (n : Int), 0 ≤ n → n < N → (∃ k : Nat, wkP g p hm n k) → (Yd g p hm n).toNat ≤ y → 0 ≤ Yd g p hm n ∧ Yd g p hm n % 1024 ≤ lsN N (Yd g p hm) n ∧ Yd g p hm n ≤ 409601 * (Yd g p hm n % 1024) := by
  intro y
  induction y using Nat.strongRecOn with
  | ind y ih =>
    intro n n0 n1 hn hy
    obtain ⟨k, _, k2, _⟩ := Yd_fin hn
    have lb := lsN_b (Y := Yd g p hm) ⟨n0, n1⟩
    by_cases q : n % 80 = hm
    · have z := Yd_hom (p := p) (feB_N hf) q
      rw [z]
      omega
    · obtain ⟨ho, w, w0, w1, e0, em, ey⟩ := Yd_pr (feB_N hf) q hn
      obtain ⟨m, hm2⟩ : ∃ m, m = edT g n w := ⟨_, rfl⟩
      rw [← hm2] at e0 em ey
      have mN := ed_N hg h8 ⟨n0, n1⟩ ho ⟨w0, w1⟩ hm2 e0
      have ew := ewN (n := n) (feB_N hf) w0
      have eb : ewT g p n w ≤ 409601 := by
        unfold ewT
        split
        · next q =>
          have z := hf (n % 80) w (by omega) (by omega) w0 q
          omega
        · omega
      obtain ⟨j, _, j2, _⟩ := Yd_fin em
      have i := ih (Yd g p hm m).toNat (by omega) m e0 mN em (Nat.le_refl _)
      have l := lsN_lt (Y := Yd g p hm) (n := n) (m := m) ⟨e0, mN⟩ (by omega)
      have e1 : Yd g p hm n % 1024 = Yd g p hm m % 1024 + 1 := by omega
      refine ⟨by omega, by omega, ?_⟩
      rw [e1]
      omega
theorem Yd_YL {g : Nat → Int} {p N hm : Int} (hg : gB g) (hf : feB g p) (h8 : N % 80 = 0) (hN : N ≤ 480) : YL g p N hm (Yd g p hm) := by
  have fin : ∀ n : Int, 0 ≤ n → n < N → (∃ k : Nat, wkP g p hm n k) → 0 ≤ Yd g p hm n ∧ Yd g p hm n < 1073741824 ∧ Yd g p hm n % 1024 ≤ 480 ∧ Yd g p hm n ≤ 409601 * (Yd g p hm n % 1024) := by
    intro n n0 n1 h
    have z := Yd_b hg hf h8 hN _ n n0 n1 h (Nat.le_refl _)
    have lb := lsN_b (Y := Yd g p hm) ⟨n0, n1⟩
    omega
  have inf : ∀ n : Int, 0 ≤ n → n < N → Yd g p hm n < 1073741824 → ∃ k : Nat, wkP g p hm n k := by
    intro n n0 n1 h
    rcases Yd_s g p hm n with ⟨k, k1, _, _⟩ | ⟨_, k2⟩
    · exact ⟨k, k1⟩
    · omega
  refine ⟨fun n n0 n1 => ?_, fun n n0 n1 h => Yd_hom (feB_N hf) h, fun n w n0 n1 ho w0 w1 e0 h => ?_, fun n n0 n1 hn h => ?_⟩
  · rcases Yd_s g p hm n with ⟨k, k1, _, _⟩ | ⟨_, k2⟩
    · have z := fin n n0 n1 ⟨k, k1⟩
      exact ⟨z.1, Or.inr z.2⟩
    · exact ⟨by omega, Or.inl k2⟩
  · have mN := ed_N hg h8 ⟨n0, n1⟩ ho ⟨w0, w1⟩ rfl e0
    exact (Yd_st (feB_N hf) ho ⟨w0, w1⟩ e0 (inf _ e0 mN h)).2
  · obtain ⟨ho, w, w0, w1, e0, em, ey⟩ := Yd_pr (feB_N hf) hn (inf n n0 n1 h)
    have mN := ed_N hg h8 ⟨n0, n1⟩ ho ⟨w0, w1⟩ rfl e0
    exact ⟨ho, w, w0, w1, e0, (fin _ e0 mN em).2.1, ey⟩
theorem YL_le {g : Nat → Int} {p N hm : Int} {Y Z : Int → Int} (hg : gB g) (hf : feN g p) (h8 : N % 80 = 0) (hY : YL g p N hm Y) (hZ : YL g p N hm Z) : ∀ (y : Nat) (n : Int), 0 ≤ n → n < N → Z n < 1073741824 → (Z n).toNat ≤ y → Y n ≤ Z n := by
  intro y
  induction y using Nat.strongRecOn with
  | ind y ih =>
    intro n n0 n1 h hy
    have z0 := (hZ.1 n n0 n1).1
    by_cases q : n % 80 = hm
    · rw [hY.2.1 n n0 n1 q]; exact z0
    · obtain ⟨ho, w, w0, w1, e0, e1, e2⟩ := hZ.2.2.2 n n0 n1 q h
      have mN := ed_N hg h8 ⟨n0, n1⟩ ho ⟨w0, w1⟩ rfl e0
      have ew := ewN (n := n) hf w0
      have zm := (hZ.1 _ e0 mN).1
      have i := ih (Z (edT g n w)).toNat (by omega) _ e0 mN e1 (Nat.le_refl _)
      have u := hY.2.2.1 n w n0 n1 ho w0 w1 e0 (by omega)
      omega
theorem YL_u {g : Nat → Int} {p N hm : Int} {Y Z : Int → Int} (hg : gB g) (hf : feN g p) (h8 : N % 80 = 0) (hY : YL g p N hm Y) (hZ : YL g p N hm Z) : ∀ n : Int, 0 ≤ n → n < N → Y n = Z n := by
  intro n n0 n1
  have a := hY.1 n n0 n1
  have b := hZ.1 n n0 n1
  by_cases q : Z n < 1073741824
  · have c := YL_le hg hf h8 hY hZ _ n n0 n1 q (Nat.le_refl _)
    have d := YL_le hg hf h8 hZ hY _ n n0 n1 (by omega) (Nat.le_refl _)
    omega
  · by_cases y : Y n < 1073741824
    · have d := YL_le hg hf h8 hZ hY _ n n0 n1 y (Nat.le_refl _)
      omega
    · omega
-- what is due, and the weights
def DUr (g : Nat → Int) (p : Int) (du : Nat → Int32) : Prop := ∀ o : Nat, o < 7 → (du o).toInt = if o = 6 then 0 else if g (98 + 4 * p.toNat) = 1 ∧ ¬ g (90 + o) = 0 then 0 else g (84 + o)
def VWx (g : Nat → Int) (vn : Nat → Int32) : Prop := ∀ c w : Nat, c < 80 → w < 8 → (vn (8 * c + w)).toInt = nxT g c w
def VWm (g : Nat → Int) (vm vf : Nat → Int32) : Prop := ∀ c w : Nat, c < 80 → w < 8 → (vm (8 * c + w)).toInt = lkM g c w ∧ (vf (8 * c + w)).toInt = ownG g (lkS g c w)
theorem VWx_n {g : Nat → Int} {vn vm vf : Nat → Int32} (h : VWn g vn vm vf) : VWx g vn := fun c w hc hw => (h c w hc hw).1
theorem VWm_n {g : Nat → Int} {vn vm vf : Nat → Int32} (h : VWn g vn vm vf) : VWm g vm vf := fun c w hc hw => (h c w hc hw).2
theorem VWx_at {g : Nat → Int} {vn : Nat → Int32} {v : Int32} {c w : Int} (h : VWx g vn) (hc : 0 ≤ c ∧ c < 80) (hw : 0 ≤ w ∧ w < 8) (hv : v.toInt = c * 8 + w) : (vn v.toNatClampNeg).toInt = nxT g c w := by
  have h3 : v.toNatClampNeg = v.toInt.toNat := rfl
  have z := h c.toNat w.toNat (by omega) (by omega)
  rw [show ((c.toNat : Nat) : Int) = c from by omega, show ((w.toNat : Nat) : Int) = w from by omega] at z
  rw [h3, show v.toInt.toNat = 8 * c.toNat + w.toNat from by omega]
  exact z
theorem VWm_at {g : Nat → Int} {vm vf : Nat → Int32} {v : Int32} {c w : Int} (h : VWm g vm vf) (hc : 0 ≤ c ∧ c < 80) (hw : 0 ≤ w ∧ w < 8) (hv : v.toInt = c * 8 + w) : (vm v.toNatClampNeg).toInt = lkM g c w ∧ (vf v.toNatClampNeg).toInt = ownG g (lkS g c w) := by
  have h3 : v.toNatClampNeg = v.toInt.toNat := rfl
  have z := h c.toNat w.toNat (by omega) (by omega)
  rw [show ((c.toNat : Nat) : Int) = c from by omega, show ((w.toNat : Nat) : Int) = w from by omega] at z
  rw [h3, show v.toInt.toNat = 8 * c.toNat + w.toNat from by omega]
  exact z
theorem du_b {g : Nat → Int} {p : Int} {du : Nat → Int32} (h : DUr g p du) (hp : gPr g) {o : Nat} (ho : o < 7) : 0 ≤ (du o).toInt ∧ (du o).toInt ≤ 99 := by
  rw [h o ho]
  split
  · omega
  · split
    · omega
    · exact hp o (by omega)
theorem fe_du {g : Nat → Int} {p c w O M : Int} {du : Nat → Int32} (h : DUr g p du) (hO : O = ownG g (lkS g c w)) (hM : M = lkM g c w) (hb : 0 ≤ O ∧ O ≤ 6) : feT g p c w = (du O.toNat).toInt * (1 + M) := by
  unfold feT pyG
  rw [← hO, ← hM, h O.toNat (by omega)]
  by_cases q : O = 6
  · rw [if_pos q, if_pos (by omega)]
    omega
  · rw [if_neg q, if_neg (show ¬ O.toNat = 6 by omega)]
    by_cases z : g (98 + 4 * p.toNat) = 1 ∧ ¬ g (90 + O.toNat) = 0
    · rw [if_pos z, if_pos z]
      omega
    · rw [if_neg z, if_neg z]
theorem we_x {g : Nat → Int} {p c w : Int} {du : Nat → Int32} {o d t m1 x y : Int32} {M : Int} (h : DUr g p du) (ho : o.toInt = ownG g (lkS g c w)) (hb : 0 ≤ o.toInt ∧ o.toInt ≤ 6) (ed : d = du o.toNatClampNeg) (hr : t.toInt = y.toInt + 1) (hy : y.toInt = x.toInt * 1024) (hx : x.toInt = d.toInt * m1.toInt) (hM : M = lkM g c w) (hm : m1.toInt = 1 + M) : t.toInt = 1024 * feT g p c w + 1 := by
  have h3 : o.toNatClampNeg = o.toInt.toNat := rfl
  rw [fe_du h ho hM hb, hr, hy, hx, ed, hm, h3, Int.mul_comm 1024]
theorem ed_x {g : Nat → Int} {k co x r : Int} (hk : 0 ≤ k) (hc : 0 ≤ co ∧ co < 16) (hx : x = nxT g (k % 80) (co % 8)) (hr : (co < 8 ∧ ((x = -1 ∧ r = -1) ∨ (¬ x = -1 ∧ r = k / 80 * 80 + x))) ∨ (¬ co < 8 ∧ (((x = -1 ∨ k / 80 - 1 < 0) ∧ r = -1) ∨ (¬ x = -1 ∧ 0 ≤ k / 80 - 1 ∧ r = (k / 80 - 1) * 80 + x)))) : r = edT g k co := by
  unfold edT
  rw [← hx]
  by_cases q : x = -1
  · rw [if_pos q]; omega
  · rw [if_neg q]
    by_cases y : co < 8
    · rw [if_pos y]; omega
    · rw [if_neg y]
      by_cases z : k < 80
      · rw [if_pos z]; omega
      · rw [if_neg z]; omega
theorem feB_of {g : Nat → Int} {p : Int} (go : gOK g) (hp : gPr g) : feB g p := by
  intro c w c0 c1 w0 w1
  have o := own_b go (lk_in (k := c) ⟨go.1.2, go.2.1.2⟩ ⟨w0, w1⟩)
  have m := lkM_b g c w
  unfold feT pyG
  split
  · omega
  · split
    · omega
    · have b := hp (ownG g (lkS g c w)).toNat (by omega)
      have h1 : 0 ≤ g (84 + (ownG g (lkS g c w)).toNat) * (1 + lkM g c w) := Int.mul_nonneg b.1 (by omega)
      have h2 : g (84 + (ownG g (lkS g c w)).toNat) * (1 + lkM g c w) ≤ 99 * 3 := Int.mul_le_mul b.2 (by omega) (by omega) (by omega)
      omega
-- the steps of a spread
theorem EI_n {g : Nat → Int} {p N st k i i2 : Int} {lf : Nat → Int32} (h : EIm g p N st lf k i) (hn : nxT g (k % 80) ((i + 4) % 8) = -1) (h2 : i2 = i + 1) : EIm g p N st lf k i2 := by
  intro w f w0 w1 e f0
  by_cases q : w = i
  · rw [q, hn] at e
    omega
  · exact h w f w0 (by omega) e f0
theorem EI_1 {g : Nat → Int} {p N st k i i2 f k1 we : Int} {lf1 lf2 : Nat → Int32} (h : EIm g p N st lf1 k i) (hm : ∀ n : Int, 0 ≤ n → lx lf2 n ≤ lx lf1 n) (hk : lx lf2 k = lx lf1 k) (a : lx lf2 k1 ≤ we ∨ lx lf2 st ≤ we) (hf : f = nxT g (k % 80) ((i + 4) % 8)) (he : we = lx lf1 k + (1024 * feT g p f i + 1)) (h1 : k1 = k - k % 80 + f) (hn : ¬ k + 80 < N) (h0 : 0 ≤ k ∧ 0 ≤ st) (h2 : i2 = i + 1) : EIm g p N st lf2 k i2 := by
  have z := EIm_mono h hm hk h0
  intro w f' w0 w1 e f0
  by_cases q : w = i
  · rw [q, ← hf] at e
    rw [q, e, hk]
    refine ⟨?_, fun y => absurd y hn⟩
    rw [← h1, ← he]
    exact a
  · exact z w f' w0 (by omega) e f0
theorem EI_2 {g : Nat → Int} {p N st k i i2 f k1 k2 we we2 : Int} {lf1 lf2 lf3 : Nat → Int32} (h : EIm g p N st lf1 k i) (hm : ∀ n : Int, 0 ≤ n → lx lf2 n ≤ lx lf1 n) (hk : lx lf2 k = lx lf1 k) (a : lx lf2 k1 ≤ we ∨ lx lf2 st ≤ we) (hm3 : ∀ n : Int, 0 ≤ n → lx lf3 n ≤ lx lf2 n) (hk3 : lx lf3 k = lx lf2 k) (b : lx lf3 k2 ≤ we2 ∨ lx lf3 st ≤ we2) (hf : f = nxT g (k % 80) ((i + 4) % 8)) (he : we = lx lf1 k + (1024 * feT g p f i + 1)) (he2 : we2 = lx lf2 k + 1) (h1 : k1 = k - k % 80 + f) (h1b : k2 = k - k % 80 + 80 + f) (h0 : 0 ≤ k ∧ 0 ≤ st ∧ 0 ≤ f) (h2 : i2 = i + 1) : EIm g p N st lf3 k i2 := by
  have z := EIm_mono (EIm_mono h hm hk ⟨h0.1, h0.2.1⟩) hm3 hk3 ⟨h0.1, h0.2.1⟩
  intro w f' w0 w1 e f0
  by_cases q : w = i
  · rw [q, ← hf] at e
    rw [q, e, hk3, hk]
    have c1 := hm3 k1 (by omega)
    have c2 := hm3 st h0.2.1
    refine ⟨?_, fun _ => ?_⟩
    · rw [← h1]
      omega
    · rw [← h1b]
      rw [hk] at he2
      omega
  · exact z w f' w0 (by omega) e f0
