-- a spread's offers, and the search
theorem sp_of {g : Nat → Int} {p N st ph r wt hd tl wt2 tl2 hm K W mx : Int} {Y : Int → Int} {lf qu qd lf2 qu2 qd2 : Nat → Int32} {k1 we : Int32} (h : SI g p N st Y ph r lf qu qd wt hd tl mx) (o : OFr lf qu qd wt tl st k1 we lf2 qu2 qd2 wt2 tl2) (hY : YL g p N hm Y) (hN : 0 ≤ N ∧ N ≤ 480) (hs : 0 ≤ st ∧ st < N) (hm0 : 0 ≤ mx) (e1 : k1.toInt = K) (hK : 0 ≤ K ∧ K < N) (hn : ¬ K = mx) (ew : we.toInt = W) (hw : Y K ≤ W) : SI g p N st Y ph r lf2 qu2 qd2 wt2 hd tl2 mx ∧ (lx lf2 K ≤ W ∨ lx lf2 st ≤ W) ∧ (∀ n : Int, 0 ≤ n → lx lf2 n ≤ lx lf n) ∧ lx lf2 mx = lx lf mx := by
  rw [← e1] at hK hn hw ⊢
  rw [← ew] at hw ⊢
  have z := SI_of h o hN hs (YL_hy hY) hK hn (fun _ => hw)
  exact ⟨z.1, z.2.1, z.2.2.1, z.2.2.2 mx hm0 hn⟩
theorem EI_0 {g : Nat → Int} {p N st m i : Int} {lf : Nat → Int32} (h : i ≤ 0) : EIm g p N st lf m i := fun w f w0 w1 _ _ => absurd w1 (by omega)
theorem EI_8 {g : Nat → Int} {p N st m i : Int} {lf : Nat → Int32} (h : EIm g p N st lf m i) (hi : 8 ≤ i) : EIm g p N st lf m 8 := fun w f w0 w1 e f0 => h w f w0 (by omega) e f0
theorem qp_0 {qu : Nat → Int32} {hd x : Int32} (h : 0 ≤ hd.toInt ∧ hd.toInt < 480) (e : x = qu hd.toNatClampNeg) : x.toInt = qp qu hd.toInt 0 := by
  have h3 : hd.toNatClampNeg = hd.toInt.toNat := rfl
  unfold qp lx
  rw [e, h3, show (hd.toInt + 0) % 480 = hd.toInt from by omega]
/-- where the search stands: its phase and what is left of it -/
def SRi (g : Nat → Int) (p N st : Int) (Y : Int → Int) (i : Int) (lf qu qd : Nat → Int32) (wt hd tl : Int) : Prop := ∃ ph r : Int, 1 ≤ ph ∧ ph ≤ 481 ∧ i + r ≤ 480 * ph ∧ SI g p N st Y ph r lf qu qd wt hd tl (-1)
theorem SRi_w {g : Nat → Int} {p N st i wt hd tl : Int} {Y : Int → Int} {lf qu qd : Nat → Int32} (h : SRi g p N st Y i lf qu qd wt hd tl) (hN : 0 ≤ N) : 0 ≤ wt ∧ wt ≤ N := by
  obtain ⟨ph, r, h1, h3, h4, hs⟩ := h
  exact QI_b hs.1 hN
theorem SRi_pop {g : Nat → Int} {p N st hm i wt wt2 hd hd2 tl : Int} {Y : Int → Int} {lf qu qd qd2 : Nat → Int32} {k : Int32} (h : SRi g p N st Y i lf qu qd wt hd tl) (hk : k.toInt = qp qu hd 0) (e1 : upd qd k.toNatClampNeg 0 = qd2) (h2 : hd2 = (hd + 1) % 480) (ew : wt2 = wt - 1) (hg : gB g) (hf : feN g p) (hY : YL g p N hm Y) (h8 : N % 80 = 0) (hN : 0 ≤ N ∧ N ≤ 480) (hw : 0 < wt) : ∃ ph r : Int, (1 ≤ ph ∧ ph ≤ 481 ∧ i + 1 + r ≤ 480 * ph) ∧ SI g p N st Y ph r lf qu qd2 wt2 hd2 tl k.toInt ∧ (0 ≤ k.toInt ∧ k.toInt < N) ∧ lx lf k.toInt < 1073741824 := by
  obtain ⟨ph, r, h1, h3, h4, hs⟩ := h
  subst ew
  by_cases q : 1 ≤ r
  · have z := SI_pop hs hN hw q hk e1 h2
    exact ⟨ph, r - 1, by omega, z.1, z.2.1, z.2.2⟩
  · have b := hs.2.2.2.2.1
    have r0 : r = 0 := by omega
    rw [r0] at hs h4
    have p1 : ph < 481 := by
      refine Int.lt_of_not_ge (fun z => ?_)
      have y := hs.2.2.2.2.2 (by omega)
      omega
    have hs2 := SI_phase hs hg hf hY h8 h1
    have b2 := QI_b hs.1 hN.1
    have z := SI_pop hs2 hN hw (by omega) hk e1 h2
    exact ⟨ph + 1, wt - 1, by omega, z.1, z.2.1, z.2.2⟩
theorem SRi_go {g : Nat → Int} {p N st ph r i i2 wt hd tl : Int} {Y : Int → Int} {lf qu qd : Nat → Int32} (h1 : 1 ≤ ph ∧ ph ≤ 481 ∧ i + 1 + r ≤ 480 * ph) (hs : SI g p N st Y ph r lf qu qd wt hd tl (-1)) (e : i2 = i + 1) : SRi g p N st Y i2 lf qu qd wt hd tl := ⟨ph, r, h1.1, h1.2.1, by omega, hs⟩
/-- what the labels are behind the search: least where that matters -/
def LBX (N st : Int) (Y : Int → Int) (lf : Nat → Int32) : Prop := (Y st < 1073741824 → lx lf st = Y st) ∧ (∀ k : Int, 0 ≤ k → k < N → Y k < Y st → Y k < 1073741824 → lx lf k = Y k) ∧ ∀ n : Int, 0 ≤ n → n < N → Y n ≤ lx lf n ∧ lx lf n ≤ 1073741824
theorem SRi_end {g : Nat → Int} {p N st hm i wt hd tl : Int} {Y : Int → Int} {lf qu qd : Nat → Int32} (h : SRi g p N st Y i lf qu qd wt hd tl) (hw : wt ≤ 0 ∨ 1000000 ≤ i) (hg : gB g) (hf : feN g p) (hY : YL g p N hm Y) (h8 : N % 80 = 0) (hN : 0 ≤ N ∧ N ≤ 480) (hs : 0 ≤ st ∧ st < N) : LBX N st Y lf := by
  obtain ⟨ph, r, h1, h3, h4, h5⟩ := h
  have b := QI_b h5.1 hN.1
  have c := h5.2.2.2.2.1
  have w0 : wt = 0 := by omega
  rw [w0] at h5
  have e := SI_end h5 hg hf hY h8 h1 hs
  have s2 := h5.2.1
  exact ⟨fun z => e _ st hs.1 hs.2 (Or.inr rfl) z (Nat.le_refl _), fun k k0 k1 k2 k3 => e _ k k0 k1 (Or.inl k2) k3 (Nat.le_refl _), fun n n0 n1 => ⟨(s2 n n0 n1).1, (s2 n n0 n1).2.1⟩⟩
theorem LB_fin {g : Nat → Int} {p N st hm : Int} {Y : Int → Int} {lf : Nat → Int32} (h : LBX N st Y lf) (hY : YL g p N hm Y) (hs : 0 ≤ st ∧ st < N) (hn : ¬ lx lf st = 1073741824) : Y st < 1073741824 := by
  have a := h.2.2 st hs.1 hs.2
  have b := hY.1 st hs.1 hs.2
  omega
theorem LB_inf {g : Nat → Int} {p N st hm : Int} {Y : Int → Int} {lf : Nat → Int32} (h : LBX N st Y lf) (hY : YL g p N hm Y) (hs : 0 ≤ st ∧ st < N) (hn : lx lf st = 1073741824) : Y st = 1073741824 := by
  have a := h.2.2 st hs.1 hs.2
  have b := hY.1 st hs.1 hs.2
  by_cases q : Y st < 1073741824
  · have c := h.1 q
    omega
  · omega
-- what is laid ahead of a search
def DUi (g : Nat → Int) (p : Int) (du0 : Nat → Int32) (i : Int) (du : Nat → Int32) : Prop := (∀ o : Nat, (o : Int) < i → o < 6 → (du o).toInt = if g (98 + 4 * p.toNat) = 1 ∧ ¬ g (90 + o) = 0 then 0 else g (84 + o)) ∧ du 6 = du0 6
theorem DUi_e {g : Nat → Int} {p i j : Int} {du0 du : Nat → Int32} (h : DUi g p du0 i du) (e : j = i) : DUi g p du0 j du := by rw [e]; exact h
theorem zr_e {f : Nat → Int32} {i j : Int} (h : zr f i) (e : j = i) : zr f j := by rw [e]; exact h
theorem DUi_0 {g : Nat → Int} {p i : Int} {du : Nat → Int32} (h : i ≤ 0) : DUi g p du i du := ⟨fun o ho => absurd ho (by omega), rfl⟩
theorem DUi_st {g : Nat → Int} {p i i2 : Int} {du0 du du2 fp ff fm : Nat → Int32} {k v a : Int32} (h : DUi g p du0 i du) (e : upd du k.toNatClampNeg v = du2) (hk : k.toInt = i) (h0 : 0 ≤ i ∧ i < 6) (h2 : i2 = i + 1) (hq : CXq g fp ff fm) (ha : a.toInt = p) (hp : 0 ≤ p ∧ p < g 3) (hv : (¬ ((fm a.toNatClampNeg).toInt = 1 ∧ ¬ (ff k.toNatClampNeg).toInt = 0) ∧ v = fp k.toNatClampNeg) ∨ (((fm a.toNatClampNeg).toInt = 1 ∧ ¬ (ff k.toNatClampNeg).toInt = 0) ∧ v = 0)) : DUi g p du0 i2 du2 := by
  have h3 : k.toNatClampNeg = k.toInt.toNat := rfl
  have h4 : a.toNatClampNeg = a.toInt.toNat := rfl
  have m := hq.2.2 p.toNat (by omega)
  refine ⟨fun o ho h6 => ?_, ?_⟩
  · rw [← e]
    show (if o = k.toNatClampNeg then v else du o).toInt = _
    by_cases q : o = k.toNatClampNeg
    · rw [if_pos q]
      have f := hq.2.1 o h6
      have c := hq.1 o h6
      rw [← q, h4, ha, m, f] at hv
      rcases hv with ⟨z, y⟩ | ⟨z, y⟩
      · rw [if_neg z, y]; exact c
      · rw [if_pos z, y]; rfl
    · rw [if_neg q]
      exact h.1 o (by omega) h6
  · rw [← e]
    show (if 6 = k.toNatClampNeg then v else du 6) = _
    rw [if_neg (by omega)]
    exact h.2
theorem DUr_of {g : Nat → Int} {p i : Int} {du0 du : Nat → Int32} (h : DUi g p du0 i du) (hi : 6 ≤ i) (h6 : (du0 6).toInt = 0) : DUr g p du := by
  intro o ho
  by_cases q : o = 6
  · rw [if_pos q, q, h.2]; exact h6
  · rw [if_neg q]; exact h.1 o (by omega) (by omega)
theorem DUr_6 {g : Nat → Int} {p : Int} {du : Nat → Int32} (h : DUr g p du) : (du 6).toInt = 0 := (h 6 (by decide)).trans (if_pos rfl)
def AFl (f : Nat → Int32) (i : Int) : Prop := ∀ j : Nat, (j : Int) < i → (f j).toInt = 1073741824
theorem AFl_e {f : Nat → Int32} {i j : Int} (h : AFl f i) (e : j = i) : AFl f j := by rw [e]; exact h
theorem AF_0 {f : Nat → Int32} {i : Int} (h : i ≤ 0) : AFl f i := fun j hj => absurd hj (by omega)
theorem AF_st {f g : Nat → Int32} {i : Int32} {i2 : Int} (h : AFl f i.toInt) (e : upd f i.toNatClampNeg 1073741824 = g) (h0 : 0 ≤ i.toInt) (h2 : i2 = i.toInt + 1) : AFl g i2 := by
  intro j hj
  have h3 : i.toNatClampNeg = i.toInt.toNat := rfl
  rw [← e]
  show (if j = i.toNatClampNeg then (1073741824 : Int32) else f j).toInt = 1073741824
  split
  · rfl
  · exact h j (by omega)
theorem cnA_none {P : Nat → Prop} : ∀ n : Nat, (∀ j : Nat, j < n → ¬ P j) → cnA P n = 0 := by
  intro n
  induction n with
  | zero => intro _; rfl
  | succ n ih =>
    intro h
    show cnA P n + ifP (P n) 1 0 = 0
    rw [ih (fun j hj => h j (by omega)), ifP_n (h n (by omega))]
    rfl
def BGi (N hm l : Int) (lf qu qd : Nat → Int32) (wt tl : Int) : Prop := QI N qu qd wt 0 tl ∧ (∀ n : Int, 0 ≤ n → n < N → lx lf n = if n % 80 = hm ∧ n < 80 * l then 0 else 1073741824) ∧ ∀ n : Int, 0 ≤ n → n < N → (¬ lx qd n = 0 ↔ (n % 80 = hm ∧ n < 80 * l))
theorem BGi_0 {N hm l i j wt tl : Int} {lf qu qd : Nat → Int32} (h1 : AFl lf i) (h2 : zr qd j) (hi : N ≤ i) (hj : N ≤ j) (hN : 0 ≤ N ∧ N ≤ 480) (hl : l ≤ 0) (hw : wt = 0) (ht : tl = 0) : BGi N hm l lf qu qd wt tl := by
  subst hw ht
  have q0 : ∀ n : Int, 0 ≤ n → n < N → lx qd n = 0 := by
    intro n n0 n1
    unfold lx
    rw [h2 n.toNat (by omega)]
    rfl
  refine ⟨⟨by omega, by omega, ?_, fun i i0 i1 => absurd i1 (by omega), fun i j i0 ij j1 => absurd j1 (by omega), fun n n0 n1 hn => absurd (q0 n n0 n1) hn⟩, ?_, ?_⟩
  · refine (cnA_none _ (fun j hj z => z ?_)).symm
    rw [h2 j (by omega)]
    rfl
  · intro n n0 n1
    rw [if_neg (by omega)]
    exact h1 n.toNat (by omega)
  · intro n n0 n1
    constructor
    · intro z; exact absurd (q0 n n0 n1) z
    · intro z; omega
theorem BGi_st {N hm l l2 st wt tl wt2 tl2 : Int} {lf qu qd lf2 qu2 qd2 : Nat → Int32} {k we : Int32} (h : BGi N hm l lf qu qd wt tl) (o : OFr lf qu qd wt tl st k we lf2 qu2 qd2 wt2 tl2) (hk : k.toInt = 80 * l + hm) (hw : we.toInt = 0) (hN : 0 ≤ N ∧ N ≤ 480) (hh : 0 ≤ hm ∧ hm < 80) (hl : 0 ≤ l ∧ 80 * l + hm < N) (hs : 80 * l ≤ st ∧ st < N) (h2 : l2 = l + 1) : BGi N hm l2 lf2 qu2 qd2 wt2 tl2 := by
  have b1 := h.2.1 k.toInt (by omega) (by omega)
  rw [if_neg (by omega)] at b1
  have b2 := h.2.1 st (by omega) (by omega)
  rw [if_neg (by omega)] at b2
  rcases o with ⟨o1, _⟩ | ⟨o1, o2, o3⟩
  · omega
  · have b3 : lx qd k.toInt = 0 := by
      refine Classical.byContradiction (fun z => ?_)
      have y := (h.2.2 k.toInt (by omega) (by omega)).mp z
      omega
    rcases o3 with ⟨c0, _⟩ | ⟨c0, ⟨a, v, c1, c2, c3, c4⟩, c5, c6⟩
    · exact absurd b3 c0
    · subst c5 c6
      have pu := QI_push (tl2 := (tl + 1) % 480) h.1 hN ⟨by omega, by omega⟩ c0 c1 c2 c3 c4 rfl
      refine ⟨pu.1, ?_, ?_⟩
      · intro n n0 n1
        by_cases q : k.toInt = n
        · rw [← o2, lx_on q, if_pos (by omega)]
          exact hw
        · rw [← o2, lx_off (by omega) n0 q, h.2.1 n n0 n1]
          by_cases y : n % 80 = hm ∧ n < 80 * l
          · rw [if_pos y, if_pos (by omega)]
          · rw [if_neg y, if_neg (by omega)]
      · intro n n0 n1
        by_cases q : k.toInt = n
        · rw [← c1, lx_on q]
          constructor
          · intro _; omega
          · intro _; exact c2
        · rw [← c1, lx_off (by omega) n0 q]
          have z := h.2.2 n n0 n1
          constructor
          · intro y
            have x := z.mp y
            omega
          · intro y
            exact z.mpr (by omega)
theorem BGi_SR {g : Nat → Int} {p N st hm l i wt hd tl : Int} {Y : Int → Int} {lf qu qd : Nat → Int32} (h : BGi N hm l lf qu qd wt tl) (hl : N ≤ 80 * l) (hY : YL g p N hm Y) (hg : gB g) (hf : feN g p) (h8 : N % 80 = 0) (hN : 0 ≤ N ∧ N ≤ 480) (hi : i = 0) (h0 : hd = 0) : SRi g p N st Y i lf qu qd wt hd tl := by
  subst h0
  have b := QI_b h.1 hN.1
  refine ⟨1, wt, by omega, by omega, by omega, h.1, ?_, ?_, ?_, ⟨b.1, Int.le_refl _⟩, fun z => absurd z (by omega)⟩
  · intro n n0 n1
    have y := hY.1 n n0 n1
    rw [h.2.1 n n0 n1]
    by_cases q : n % 80 = hm ∧ n < 80 * l
    · rw [if_pos q]
      have z := hY.2.1 n n0 n1 q.1
      exact ⟨by omega, by omega, fun _ => by omega⟩
    · rw [if_neg q]
      exact ⟨by omega, by omega, fun z => absurd ((h.2.2 n n0 n1).mp z) q⟩
  · intro n n0 n1 _ nq nf
    rw [h.2.1 n n0 n1] at nf
    by_cases q : n % 80 = hm ∧ n < 80 * l
    · exact absurd nq ((h.2.2 n n0 n1).mpr q)
    · rw [if_neg q] at nf
      omega
  · intro n n0 n1 d1 _ d3
    refine ⟨?_, fun i i0 i1 => absurd i1 (by omega)⟩
    have y := hY.1 n n0 n1
    have y0 : Y n = 0 := by omega
    by_cases q : n % 80 = hm
    · rw [h.2.1 n n0 n1, if_pos ⟨q, by omega⟩]
      exact y0.symm
    · exfalso
      obtain ⟨ho, w, w0, w1, e0, e1, e2⟩ := hY.2.2.2 n n0 n1 q d3
      have mN := ed_N hg h8 ⟨n0, n1⟩ ho ⟨w0, w1⟩ rfl e0
      have ew := ewN (n := n) hf w0
      have ym := (hY.1 _ e0 mN).1
      omega
theorem BG_eq {N hm l l2 wt tl : Int} {lf qu qd : Nat → Int32} (h : BGi N hm l lf qu qd wt tl) (e : l = l2) : BGi N hm l2 lf qu qd wt tl := by rw [← e]; exact h
-- the first step, and the way
def tgW (g : Nat → Int) (p : Int) (Y : Int → Int) (n w : Int) : Prop := 0 ≤ edT g n w ∧ Y (edT g n w) < 1073741824 ∧ Y (edT g n w) + ewT g p n w = Y n
def nbW (g : Nat → Int) (p : Int) (Y : Int → Int) (n i : Int) : Prop := ∀ u : Int, 0 ≤ u → u < i → ¬ tgW g p Y n u
def fsW (g : Nat → Int) (p : Int) (Y : Int → Int) (n w : Int) : Prop := 0 ≤ w ∧ w < 16 ∧ tgW g p Y n w ∧ nbW g p Y n w
theorem nbW_0 {g : Nat → Int} {p n i : Int} {Y : Int → Int} (h : i ≤ 0) : nbW g p Y n i := fun u u0 u1 => absurd u1 (by omega)
theorem nbW_st {g : Nat → Int} {p n i i2 : Int} {Y : Int → Int} (h : nbW g p Y n i) (hn : ¬ tgW g p Y n i) (e : i2 = i + 1) : nbW g p Y n i2 := by
  intro u u0 u1
  by_cases q : u = i
  · rw [q]; exact hn
  · exact h u u0 (by omega)
theorem fsW_u {g : Nat → Int} {p n w u : Int} {Y : Int → Int} (h : fsW g p Y n w) (k : fsW g p Y n u) : w = u := by
  by_cases q : w < u
  · exact absurd h.2.2.1 (k.2.2.2 w h.1 q)
  · by_cases z : u < w
    · exact absurd k.2.2.1 (h.2.2.2 u k.1 z)
    · omega
def pth (g : Nat → Int) (p : Int) (Y : Int → Int) : Nat → Int → Int → Prop
  | 0, a, b => b = a
  | k + 1, a, b => ∃ c w : Int, pth g p Y k a c ∧ fsW g p Y c w ∧ b = edT g c w
theorem pth_u {g : Nat → Int} {p : Int} {Y : Int → Int} {a : Int} : ∀ (k : Nat) (b c : Int), pth g p Y k a b → pth g p Y k a c → b = c := by
  intro k
  induction k with
  | zero => intro b c h1 h2; exact Eq.trans h1 (Eq.symm h2)
  | succ k ih =>
    intro b c h1 h2
    obtain ⟨d, w, p1, p2, rfl⟩ := h1
    obtain ⟨d2, w2, q1, q2, rfl⟩ := h2
    have e := ih d d2 p1 q1
    subst e
    rw [fsW_u p2 q2]
/-- behind some steps of the way -/
def PTs (g : Nat → Int) (p N st : Int) (Y : Int → Int) (i n : Int) : Prop := pth g p Y i.toNat st n ∧ (0 ≤ n ∧ n < N) ∧ Y n < 1073741824 ∧ Y n % 1024 + i = Y st % 1024 ∧ (Y n < Y st ∨ n = st)
theorem PT_0 {g : Nat → Int} {p N st i : Int} {Y : Int → Int} (hs : 0 ≤ st ∧ st < N) (hf : Y st < 1073741824) (hi : i = 0) : PTs g p N st Y i st := by
  subst hi
  exact ⟨rfl, hs, hf, by omega, Or.inr rfl⟩
theorem PT_h {g : Nat → Int} {p N st hm i n : Int} {Y : Int → Int} (h : PTs g p N st Y i n) (hY : YL g p N hm Y) (hi : i < Y st % 1024) : ¬ n % 80 = hm := by
  intro q
  have z := hY.2.1 n h.2.1.1 h.2.1.2 q
  have y := h.2.2.2.1
  rw [z] at y
  omega
theorem PT_st {g : Nat → Int} {p N st hm i i2 n n2 w : Int} {Y : Int → Int} (h : PTs g p N st Y i n) (hw : fsW g p Y n w) (e : n2 = edT g n w) (h2 : i2 = i + 1) (h0 : 0 ≤ i) (hi : i < Y st % 1024) (hY : YL g p N hm Y) (hg : gB g) (hf : feN g p) (h8 : N % 80 = 0) : PTs g p N st Y i2 n2 := by
  have nh := PT_h h hY hi
  obtain ⟨p1, p2, p3, p4, p5⟩ := h
  have ho := (hY.2.2.2 n p2.1 p2.2 nh p3).1
  obtain ⟨w0, w1, ⟨t1, t2, t3⟩, _⟩ := id hw
  have mN := ed_N hg h8 p2 ho ⟨w0, w1⟩ rfl t1
  have ew := ewN (n := n) hf w0
  have ym := hY.1 _ t1 mN
  subst e h2
  refine ⟨?_, ⟨t1, mN⟩, t2, by omega, Or.inl ?_⟩
  · rw [show (i + 1).toNat = i.toNat + 1 from by omega]
    exact ⟨n, w, p1, hw, rfl⟩
  · rcases p5 with q | q
    · omega
    · rw [← q]; omega
theorem FS_k {N st : Int} {Y : Int → Int} {lf : Nat → Int32} {k : Int} (h : LBX N st Y lf) (hk : 0 ≤ k ∧ k < N) (hs : Y k < Y st ∨ k = st) (hf : Y k < 1073741824) : lx lf k = Y k := by
  rcases hs with q | q
  · exact h.2.1 k hk.1 hk.2 q hf
  · rw [q]
    rw [q] at hf
    exact h.1 hf
theorem FS_t {g : Nat → Int} {p N st hm k w m : Int} {Y : Int → Int} {lf : Nat → Int32} (h : LBX N st Y lf) (hY : YL g p N hm Y) (hk : 0 ≤ k ∧ k < N) (hs : Y k < Y st ∨ k = st) (hf : Y k < 1073741824) (hh : ¬ k % 80 = hm) (hg : gB g) (hfe : feN g p) (h8 : N % 80 = 0) (hw : 0 ≤ w ∧ w < 16) (em : m = edT g k w) (t : tgW g p Y k w) : lx lf m = Y m ∧ Y m + ewT g p k w = Y k ∧ Y m < 1073741824 ∧ 0 ≤ m := by
  obtain ⟨t1, t2, t3⟩ := t
  have ho := (hY.2.2.2 k hk.1 hk.2 hh hf).1
  have mN := ed_N hg h8 hk ho hw rfl t1
  have ew := ewN (n := k) hfe hw.1
  rw [← em] at t1 t2 t3 mN
  refine ⟨h.2.1 m t1 mN ?_ t2, t3, t2, t1⟩
  rcases hs with q | q
  · omega
  · rw [← q]; omega
theorem FS_y {g : Nat → Int} {p N st hm k w m : Int} {Y : Int → Int} {lf : Nat → Int32} (h : LBX N st Y lf) (hY : YL g p N hm Y) (hk : 0 ≤ k ∧ k < N) (hs : Y k < Y st ∨ k = st) (hf : Y k < 1073741824) (hh : ¬ k % 80 = hm) (hg : gB g) (hfe : feN g p) (h8 : N % 80 = 0) (hw : 0 ≤ w ∧ w < 16) (em : m = edT g k w) (h0 : 0 ≤ m) (hn : ¬ lx lf m = 1073741824) (he : lx lf m + ewT g p k w = lx lf k) : tgW g p Y k w := by
  have ho := (hY.2.2.2 k hk.1 hk.2 hh hf).1
  have e0 : 0 ≤ edT g k w := by rw [← em]; exact h0
  have mN := ed_N hg h8 hk ho hw rfl e0
  have ek := FS_k h hk hs hf
  have z := h.2.2 _ e0 mN
  rw [← em] at z
  have yf : Y (edT g k w) < 1073741824 := by rw [← em]; omega
  have u := hY.2.2.1 k w hk.1 hk.2 ho hw.1 hw.2 e0 yf
  refine ⟨e0, yf, ?_⟩
  rw [← em] at u ⊢
  omega
theorem FS_ex {g : Nat → Int} {p N hm k i : Int} {Y : Int → Int} (hY : YL g p N hm Y) (hk : 0 ≤ k ∧ k < N) (hf : Y k < 1073741824) (hh : ¬ k % 80 = hm) (hi : 16 ≤ i) (h : nbW g p Y k i) : False := by
  obtain ⟨_, w, w0, w1, e0, e1, e2⟩ := hY.2.2.2 k hk.1 hk.2 hh hf
  exact h w w0 (by omega) ⟨e0, e1, e2.symm⟩
-- the way home: what is answered
def hmOK (g : Nat → Int) (a gb k : Int) : Prop := onG g a ∧ (0 ≤ gb ∧ ((g (98 + 4 * a.toNat) = 2 ∧ gb ≤ 5) ∨ (¬ g (98 + 4 * a.toNat) = 2 ∧ gb ≤ 0))) ∧ -2 ≤ k
def hmB (g : Nat → Int) (p : Int) (Y : Int → Int) (st k : Int) (r : Int32) : Prop := (Y st = 1073741824 ∧ r = -1000000) ∨ (Y st < 1073741824 ∧ ((k = -2 ∧ r.toInt = Y st / 1024) ∨ (k = -1 ∧ r.toInt = Y st % 1024) ∨ (0 ≤ k ∧ Y st % 1024 ≤ k ∧ r = -1000000) ∨ (0 ≤ k ∧ k < Y st % 1024 ∧ ∃ m : Int, pth g p Y k.toNat st m ∧ fsW g p Y m r.toInt)))
noncomputable def Yh (g : Nat → Int) (p : Int) : Int → Int := Yd g p (g (97 + 4 * p.toNat))
def sH (g : Nat → Int) (p gb : Int) : Int := 80 * gb + g (96 + 4 * p.toNat)
def stHome (g : Nat → Int) (a gb k r : Int32) : Prop := (¬ hmOK g a.toInt gb.toInt k.toInt ∧ r = -1000001) ∨ (hmOK g a.toInt gb.toInt k.toInt ∧ hmB g a.toInt (Yh g a.toInt) (sH g a.toInt gb.toInt) k.toInt r)
theorem hmB_u {g : Nat → Int} {p st k : Int} {Y : Int → Int} {r q : Int32} (h : hmB g p Y st k r) (z : hmB g p Y st k q) : r = q := by
  rcases h with ⟨h1, h2⟩ | ⟨h1, h⟩ <;> rcases z with ⟨z1, z2⟩ | ⟨z1, z⟩
  · exact h2.trans z2.symm
  · exact absurd h1 (by omega)
  · exact absurd z1 (by omega)
  · rcases h with ⟨h2, h3⟩ | ⟨h2, h3⟩ | ⟨h2, h3, h4⟩ | ⟨h2, h3, m, h4, h5⟩ <;> rcases z with ⟨z2, z3⟩ | ⟨z2, z3⟩ | ⟨z2, z3, z4⟩ | ⟨z2, z3, m2, z4, z5⟩ <;> first | (exfalso; omega) | exact Int32.toInt_inj.mp (h3.trans z3.symm) | exact h4.trans z4.symm | skip
    have e := pth_u _ _ _ h4 z4
    subst e
    exact Int32.toInt_inj.mp (fsW_u h5 z5)
theorem stHome_eq {g : Nat → Int} {a gb k r q : Int32} (h : stHome g a gb k r) (z : stHome g a gb k q) : r = q := by
  rcases h with ⟨h1, h2⟩ | ⟨h1, h2⟩ <;> rcases z with ⟨z1, z2⟩ | ⟨z1, z2⟩
  · exact h2.trans z2.symm
  · exact absurd z1 h1
  · exact absurd h1 z1
  · exact hmB_u h2 z2
-- for nothing
def nzP (g : Nat → Int) (p gb : Int) : Prop := Yh g p (sH g p gb) < 1073741824 ∧ Yh g p (sH g p gb) / 1024 = 0
def ntA (g : Nat → Int) (p mo : Int) (r : Int32) : Prop := (∃ gb : Int, 0 ≤ gb ∧ gb ≤ mo ∧ nzP g p gb ∧ (∀ u : Int, 0 ≤ u → u < gb → ¬ nzP g p u) ∧ r.toInt = gb) ∨ ((∀ u : Int, 0 ≤ u → u ≤ mo → ¬ nzP g p u) ∧ r = -1000000)
def moG (g : Nat → Int) (p : Int) : Int := if g (98 + 4 * p.toNat) = 2 then 5 else 0
def stNoth (g : Nat → Int) (a r : Int32) : Prop := (¬ onG g a.toInt ∧ r = -1000001) ∨ (onG g a.toInt ∧ ntA g a.toInt (moG g a.toInt) r)
theorem stNoth_eq {g : Nat → Int} {a r q : Int32} (h : stNoth g a r) (z : stNoth g a q) : r = q := by
  rcases h with ⟨h1, h2⟩ | ⟨h1, h⟩ <;> rcases z with ⟨z1, z2⟩ | ⟨z1, z⟩
  · exact h2.trans z2.symm
  · exact absurd z1 h1
  · exact absurd h1 z1
  · rcases h with ⟨b, h2, h3, h4, h5, h6⟩ | ⟨h2, h3⟩ <;> rcases z with ⟨c, z2, z3, z4, z5, z6⟩ | ⟨z2, z3⟩
    · apply Int32.toInt_inj.mp
      by_cases x : b < c
      · exact absurd h4 (z5 b h2 x)
      · by_cases y : c < b
        · exact absurd z4 (h5 c z2 y)
        · omega
    · exact absurd h4 (z2 b h2 h3)
    · exact absurd z4 (h2 c z2 z3)
    · exact h3.trans z3.symm
def nzN (g : Nat → Int) (p i : Int) : Prop := ∀ u : Int, 0 ≤ u → u < i → ¬ nzP g p u
theorem nzN_0 {g : Nat → Int} {p i : Int} (h : i ≤ 0) : nzN g p i := fun u u0 u1 => absurd u1 (by omega)
theorem nzN_st {g : Nat → Int} {p i i2 : Int} (h : nzN g p i) (hn : ¬ nzP g p i) (e : i2 = i + 1) : nzN g p i2 := by
  intro u u0 u1
  by_cases q : u = i
  · rw [q]; exact hn
  · exact h u u0 (by omega)
theorem nt_y {g : Nat → Int} {p mo i : Int} {r : Int32} (h : nzN g p i) (hz : nzP g p i) (h0 : 0 ≤ i ∧ i ≤ mo) (hr : r.toInt = i) : ntA g p mo r := Or.inl ⟨i, h0.1, h0.2, hz, h, hr⟩
theorem nt_n {g : Nat → Int} {p mo i : Int} {r : Int32} (h : nzN g p i) (h0 : mo < i) (hr : r = -1000000) : ntA g p mo r := Or.inr ⟨fun u u0 u1 => h u u0 (by omega), hr⟩
theorem mo_y {g : Nat → Int} {p : Int} (h : g (98 + 4 * p.toNat) = 2) : moG g p = 5 := if_pos h
theorem mo_n {g : Nat → Int} {p : Int} (h : ¬ g (98 + 4 * p.toNat) = 2) : moG g p = 0 := if_neg h
-- homes are open
def gHo (g : Nat → Int) : Prop := ∀ p : Nat, (p : Int) < g 3 → opK g (g (97 + 4 * p))
def gFH (g : Nat → Int) : Prop := gF g ∧ gHo g
theorem gFH_zero : gFH (fun _ => 0) := ⟨fun _ _ => Or.inl rfl, fun p hp => absurd (show (p : Int) < 0 from hp) (by omega)⟩
theorem opK_cg {g g2 : Nat → Int} {k : Int} (h : opK g k) (e : ∀ j : Nat, j < 84 → g2 j = g j) (hg : gB g) : opK g2 k := by
  have b := insK_80 hg h.1
  obtain ⟨h1, h2⟩ := h
  unfold insK at h1
  unfold opK insK
  rw [e 0 (by omega), e 1 (by omega), e (4 + k.toNat) (by omega)]
  exact ⟨h1, h2⟩
theorem gFH_cg {g g2 : Nat → Int} (h : gFH g) (e : ∀ j : Nat, stI j → g2 j = g j) (go : gOK g) : gFH g2 := by
  refine ⟨fun j hj => ?_, fun p hp => ?_⟩
  · rw [e (90 + j) (by unfold stI; omega)]
    exact h.1 j hj
  · rw [e 3 (by unfold stI; omega)] at hp
    have g3 := go.2.2.1
    rw [e (97 + 4 * p) (by unfold stI; omega)]
    exact opK_cg (h.2 p hp) (fun j hj => e j (by unfold stI; omega)) ⟨go.1.2, go.2.1.2⟩
theorem gFH_pr {g : Nat → Int} {k v : Int} (h : gFH g) (hk : 84 ≤ k ∧ k < 90) (go : gOK g) : gFH (updI g k v) := by
  have e : ∀ j : Nat, (j < 84 ∨ 90 ≤ j) → updI g k v j = g j := fun j hj => if_neg (by omega)
  refine ⟨fun j hj => ?_, fun p hp => ?_⟩
  · rw [e (90 + j) (by omega)]
    exact h.1 j hj
  · rw [e 3 (by omega)] at hp
    rw [e (97 + 4 * p) (by omega)]
    exact opK_cg (h.2 p hp) (fun j hj => e j (by omega)) ⟨go.1.2, go.2.1.2⟩
theorem ifP_c {α : Type} {P : Prop} {x y : α} (Q : α → Prop) (hx : P → Q x) (hy : ¬ P → Q y) : Q (ifP P x y) := by
  rcases Classical.em P with q | q
  · rw [ifP_y q]; exact hx q
  · rw [ifP_n q]; exact hy q
theorem vlA_nn (t : Int → Int) : ∀ (n : Nat) (i v : Int), 0 ≤ v → (∀ j : Int, i ≤ j → j < i + n → 48 ≤ t j) → 0 ≤ vlA t n i v := by
  intro n
  induction n with
  | zero => intro i v hv _; exact hv
  | succ n ih =>
    intro i v hv h
    have z := h i (by omega) (by omega)
    exact ih (i + 1) (v * 10 + t i - 48) (by omega) (fun j h1 h2 => h j (by omega) (by omega))
theorem tV_nn {t : Int → Int} {a : Int} (h : tK t a = 2) : 0 ≤ tV t a := by
  have f := tK_fig h
  exact vlA_nn t _ a 0 (Int.le_refl 0) (fun j h1 h2 => (f.2 j h1 (by omega)).1)
/-- the homes told so far are open -/
def hoT (t : Int → Int) (w h n : Int) (H : Nat → Int) : Prop := ∀ p : Nat, (p : Int) < n → ∃ x y : Int, 0 ≤ x ∧ x < w ∧ 0 ≤ y ∧ y < h ∧ t (cSt t y.toNat + x) = 111 ∧ H p = x + 10 * y
def rH (t : Int → Int) (z : Int × Int × Int × Int × Int × (Nat → Int) × (Nat → Int) × (Nat → Int) × (Nat → Int) × (Nat → Int)) : Prop := hoT t z.2.2.1 z.2.2.2.1 z.2.2.2.2.1 z.2.2.2.2.2.2.2.2.1
theorem rH_f (t : Int → Int) (f p : Int) : rH t (fltR f p) := fun q hq => absurd (show (q : Int) < 0 from hq) (by omega)
theorem oF_in {t : Int → Int} {w h a : Int} (hz : oF t w h a = 0) : ∃ x y : Int, 0 ≤ x ∧ x < w ∧ 0 ≤ y ∧ y < h ∧ t (cSt t y.toNat + x) = 111 ∧ x = tV t a ∧ y = tV t (nx t a) := by
  by_cases n0 : nF t w a = 0
  · have k1 : tK t a = 2 ∧ tV t a < w := by
      by_cases q : tK t a = 2
      · refine ⟨q, ?_⟩
        by_cases z : w ≤ tV t a
        · rw [nF_2 q z] at n0; omega
        · omega
      · rw [nF_1 q] at n0; omega
    have e : oF t w h a = yF t h (tV t a) (nx t a) := ifP_y n0
    rw [e] at hz
    by_cases q : tK t (nx t a) = 2
    · by_cases z : opT t h (tV t a) (tV t (nx t a))
      · exact ⟨tV t a, tV t (nx t a), tV_nn k1.1, k1.2, tV_nn q, z.1, z.2, rfl, rfl⟩
      · rw [show yF t h (tV t a) (nx t a) = 2 from (ifP_n (fun y => y q)).trans (ifP_n z)] at hz
        omega
    · rw [show yF t h (tV t a) (nx t a) = 1 from ifP_y q] at hz
      omega
  · have e : oF t w h a = nF t w a := ifP_n n0
    rw [e] at hz
    exact absurd hz n0
theorem hoT_st {t : Int → Int} {w h n a : Int} {H : Nat → Int} (hH : hoT t w h n H) (hz : oF t w h a = 0) : hoT t w h (n + 1) (updI H n (tV t a + 10 * tV t (nx t a))) := by
  obtain ⟨x, y, h1, h2, h3, h4, h5, h6, h7⟩ := oF_in hz
  intro p hp
  show ∃ x y : Int, 0 ≤ x ∧ x < w ∧ 0 ≤ y ∧ y < h ∧ t (cSt t y.toNat + x) = 111 ∧ (if (p : Int) = n then tV t a + 10 * tV t (nx t a) else H p) = x + 10 * y
  by_cases q : (p : Int) = n
  · rw [if_pos q]
    exact ⟨x, y, h1, h2, h3, h4, h5, by rw [h6, h7]⟩
  · rw [if_neg q]
    exact hH p (by omega)
theorem rQA_H {t : Int → Int} {w h : Int} {P F : Nat → Int} : ∀ (k : Nat) (n a : Int) (L H M : Nat → Int), hoT t w h n H → rH t (rQA t w h P F k n a L H M) := by
  intro k
  induction k with
  | zero => intro n a L H M _; exact rH_f _ _ _
  | succ k ih =>
    intro n a L H M hH
    exact ifP_c (rH t) (fun _ => ifP_c (rH t) (fun _ => rH_f _ _ _) (fun _ => ifP_c (rH t) (fun _ => rH_f _ _ _) (fun _ => ifP_c (rH t) (fun _ => rH_f _ _ _) (fun c2 => ifP_c (rH t) (fun _ => ih _ _ _ _ _ (hoT_st hH (Classical.byContradiction c2))) (fun _ => rH_f _ _ _))))) (fun _ => ifP_c (rH t) (fun _ => show rH t (okR w h n P F L H M) from hH) (fun _ => rH_f _ _ _))
theorem hoT_0 {t : Int → Int} {w h : Int} {H : Nat → Int} : hoT t w h 0 H := fun p hp => absurd hp (by omega)
theorem rPA_H {t : Int → Int} {w h : Int} : ∀ (k : Nat) (n a : Int) (P F : Nat → Int), rH t (rPA t w h k n a P F) := by
  intro k
  induction k with
  | zero => intro n a P F; exact rH_f _ _ _
  | succ k ih =>
    intro n a P F
    exact ifP_i (rH t) (ifP_i (rH t) (rH_f _ _ _) (ifP_i (rH t) (rH_f _ _ _) (ifP_i (rH t) (rH_f _ _ _) (ifP_i (rH t) (ih _ _ _ _) (rH_f _ _ _))))) (rQA_H _ _ _ _ _ _ hoT_0)
theorem rRA_H {t : Int → Int} : ∀ (k : Nat) (h w a : Int), rH t (rRA t k h w a) := by
  intro k
  induction k with
  | zero => intro h w a; exact rH_f _ _ _
  | succ k ih =>
    intro h w a
    exact ifP_i (rH t) (ifP_i (rH t) (rH_f _ _ _) (ifP_i (rH t) (rH_f _ _ _) (ifP_i (rH t) (ih _ _ _) (rH_f _ _ _)))) (rPA_H _ _ _ _ _)
theorem RD_H (t : Int → Int) : rH t (RD t) := ifP_i (rH t) (rRA_H _ _ _ _) (rH_f _ _ _)
theorem gT2_H {t : Int → Int} (hw : gT2 t 0 ≤ 10) (hh : gT2 t 1 ≤ 8) (hn : gT2 t 3 ≤ 6) : gFH (gT2 t) := by
  refine ⟨gT2_F t, fun p hp => ?_⟩
  have e3 : gT2 t 3 = (RD t).2.2.2.2.1 := by
    rw [gT2_3]
    unfold gT
    rw [if_neg (by decide), if_neg (by decide), if_pos rfl]
  have e0 : gT2 t 0 = (RD t).2.2.1 := by
    rw [gT2_s (by unfold stI; omega)]
    unfold gT
    rw [if_pos rfl]
  have e1 : gT2 t 1 = (RD t).2.2.2.1 := by
    rw [gT2_s (by unfold stI; omega)]
    unfold gT
    rw [if_neg (by decide), if_pos rfl]
  obtain ⟨x, y, h1, h2, h3, h4, h5, h6⟩ := RD_H t p (by rw [← e3]; exact hp)
  have e7 : gT2 t (97 + 4 * p) = x + 10 * y := by
    rw [gT2_s (by unfold stI; omega)]
    unfold gT
    rw [if_neg (by omega), if_neg (by omega), if_neg (by omega), if_neg (by omega), if_neg (by omega), if_neg (by omega), if_neg (by omega), if_pos (by omega), show (97 + 4 * p - 96) / 4 = p from by omega]
    exact h6
  have b0 : x < gT2 t 0 := by rw [e0]; exact h2
  have b1 : y < gT2 t 1 := by rw [e1]; exact h4
  rw [e7]
  refine ⟨⟨by omega, by omega, by omega⟩, ?_⟩
  rw [gT2_s (by unfold stI; omega), gT_c (by omega), show (x + 10 * y).toNat / 10 = y.toNat from by omega, show (((x + 10 * y).toNat % 10 : Nat) : Int) = x from by omega, h5]
  rfl
theorem nx_rng {g : Nat → Int} {c w : Int} (hg : gB g) : nxT g c w = -1 ∨ (0 ≤ nxT g c w ∧ nxT g c w < 80 ∧ opK g (nxT g c w)) := by
  unfold nxT
  split
  · next q =>
    refine Or.inr ?_
    have k := nbT_in hg.1 q.1
    have b := insK_80 hg k
    exact ⟨q.1, b.2, k, q.2⟩
  · exact Or.inl rfl
theorem PT_eq {g : Nat → Int} {p N st i i2 n : Int} {Y : Int → Int} (h : PTs g p N st Y i n) (e : i = i2) : PTs g p N st Y i2 n := by rw [← e]; exact h
theorem PT_p {g : Nat → Int} {p N st i k n : Int} {Y : Int → Int} (h : PTs g p N st Y i n) (e : i = k) : pth g p Y k.toNat st n := by rw [← e]; exact h.1
