-- what is seen from where
theorem eES {y : Int} (h : 0 ≤ y ∧ y < 8) : (y = 0 ∧ eE y = 0 ∧ eS y = -1) ∨ (y = 1 ∧ eE y = 1 ∧ eS y = -1) ∨ (y = 2 ∧ eE y = 1 ∧ eS y = 0) ∨ (y = 3 ∧ eE y = 1 ∧ eS y = 1) ∨ (y = 4 ∧ eE y = 0 ∧ eS y = 1) ∨ (y = 5 ∧ eE y = -1 ∧ eS y = 1) ∨ (y = 6 ∧ eE y = -1 ∧ eS y = 0) ∨ (y = 7 ∧ eE y = -1 ∧ eS y = -1) := by
  rcases (show y = 0 ∨ y = 1 ∨ y = 2 ∨ y = 3 ∨ y = 4 ∨ y = 5 ∨ y = 6 ∨ y = 7 by omega) with rfl | rfl | rfl | rfl | rfl | rfl | rfl | rfl <;> decide
theorem nb_mono {w h a y : Int} (hw : w ≤ 10) (hh : h ≤ 8) (ha : 0 ≤ a ∧ a < 80) (hy : 0 ≤ y ∧ y < 8) : nbT w h a y = -1 ∨ (0 ≤ nbT w h a y ∧ nbT w h a y < 80 ∧ ((2 ≤ y ∧ y ≤ 5 ∧ a < nbT w h a y) ∨ ((y ≤ 1 ∨ 6 ≤ y) ∧ nbT w h a y < a))) := by
  have q := eES hy
  unfold nbT
  split
  · refine Or.inr ?_
    omega
  · exact Or.inl rfl
def fsN (y a : Int) : Nat := if a < 0 then 0 else if 2 ≤ y ∧ y ≤ 5 then (80 - a).toNat else (a + 1).toNat
theorem fsN_lt {w h a y : Int} (hw : w ≤ 10) (hh : h ≤ 8) (ha : 0 ≤ a ∧ a < 80) (hy : 0 ≤ y ∧ y < 8) : fsN y (nbT w h a y) < fsN y a ∧ (nbT w h a y = -1 ∨ (0 ≤ nbT w h a y ∧ nbT w h a y < 80)) := by
  have q := nb_mono hw hh ha hy
  generalize nbT w h a y = r at q ⊢
  refine ⟨?_, by omega⟩
  unfold fsN
  rw [if_neg (show ¬ a < 0 by omega)]
  rcases q with rfl | q
  · rw [if_pos (show (-1 : Int) < 0 by decide)]
    split <;> omega
  · rw [if_neg (show ¬ r < 0 by omega)]
    split <;> omega
theorem fsN_0 {y a : Int} (ha : a = -1 ∨ (0 ≤ a ∧ a < 80)) (h : fsN y a ≤ 0) : a < 0 := by
  rcases ha with q | q
  · omega
  · exfalso
    unfold fsN at h
    rw [if_neg (by omega)] at h
    split at h <;> omega
/-- from a cell on: the first that is not open -/
def fsA (g : Nat → Int) (y : Int) : Nat → Int → Int
  | 0, a => a
  | n + 1, a => if 0 ≤ a ∧ g (4 + a.toNat) = -3 then fsA g y n (nbT (g 0) (g 1) a y) else a
def fsT (g : Nat → Int) (y a : Int) : Int := fsA g y (fsN y a) a
def gB (g : Nat → Int) : Prop := g 0 ≤ 10 ∧ g 1 ≤ 8
theorem fsA_n {g : Nat → Int} {y : Int} (hg : gB g) (hy : 0 ≤ y ∧ y < 8) : ∀ (n m : Nat) (a : Int), (a = -1 ∨ (0 ≤ a ∧ a < 80)) → fsN y a ≤ n → fsN y a ≤ m → fsA g y n a = fsA g y m a := by
  intro n
  induction n with
  | zero =>
    intro m a ha hn hm
    have h0 := fsN_0 ha hn
    cases m with
    | zero => rfl
    | succ m =>
      show a = (if 0 ≤ a ∧ g (4 + a.toNat) = -3 then _ else a)
      rw [if_neg (by omega)]
  | succ n ih =>
    intro m a ha hn hm
    cases m with
    | zero =>
      have h0 := fsN_0 ha hm
      show (if 0 ≤ a ∧ g (4 + a.toNat) = -3 then _ else a) = a
      rw [if_neg (by omega)]
    | succ m =>
      show (if 0 ≤ a ∧ g (4 + a.toNat) = -3 then fsA g y n (nbT (g 0) (g 1) a y) else a) = (if 0 ≤ a ∧ g (4 + a.toNat) = -3 then fsA g y m (nbT (g 0) (g 1) a y) else a)
      by_cases q : 0 ≤ a ∧ g (4 + a.toNat) = -3
      · rw [if_pos q, if_pos q]
        have z := fsN_lt hg.1 hg.2 (show 0 ≤ a ∧ a < 80 by omega) hy
        exact ih m _ z.2 (by omega) (by omega)
      · rw [if_neg q, if_neg q]
theorem fsT_e {g : Nat → Int} {y a : Int} (hg : gB g) (hy : 0 ≤ y ∧ y < 8) (ha : a = -1 ∨ (0 ≤ a ∧ a < 80)) : fsT g y a = if 0 ≤ a ∧ g (4 + a.toNat) = -3 then fsT g y (nbT (g 0) (g 1) a y) else a := by
  have e : fsT g y a = fsA g y (fsN y a + 1) a := fsA_n hg hy _ _ a ha (Nat.le_refl _) (Nat.le_succ _)
  rw [e]
  show (if 0 ≤ a ∧ g (4 + a.toNat) = -3 then fsA g y (fsN y a) (nbT (g 0) (g 1) a y) else a) = _
  by_cases q : 0 ≤ a ∧ g (4 + a.toNat) = -3
  · rw [if_pos q, if_pos q]
    have z := fsN_lt hg.1 hg.2 (show 0 ≤ a ∧ a < 80 by omega) hy
    exact fsA_n hg hy _ _ _ z.2 (Nat.le_of_lt z.1) (Nat.le_refl _)
  · rw [if_neg q, if_neg q]
theorem fsT_y {g : Nat → Int} {y a : Int} (hg : gB g) (hy : 0 ≤ y ∧ y < 8) (ha : 0 ≤ a ∧ a < 80) (h : g (4 + a.toNat) = -3) : fsT g y a = fsT g y (nbT (g 0) (g 1) a y) := by
  rw [fsT_e hg hy (Or.inr ha), if_pos ⟨ha.1, h⟩]
theorem fsT_n {g : Nat → Int} {y a : Int} (hg : gB g) (hy : 0 ≤ y ∧ y < 8) (ha : a = -1 ∨ (0 ≤ a ∧ a < 80)) (h : ¬ (0 ≤ a ∧ g (4 + a.toNat) = -3)) : fsT g y a = a := by
  rw [fsT_e hg hy ha, if_neg h]
theorem insK_80 {g : Nat → Int} {k : Int} (hg : gB g) (h : insK g k) : 0 ≤ k ∧ k < 80 := by
  have h1 := hg.2
  have h2 := h.1
  have h3 := h.2.2
  omega
theorem nbT_K {g : Nat → Int} {k y : Int} (hg : gB g) : nbT (g 0) (g 1) k y = -1 ∨ insK g (nbT (g 0) (g 1) k y) := by
  rcases Classical.em (0 ≤ nbT (g 0) (g 1) k y) with h | h
  · exact Or.inr (nbT_in hg.1 h)
  · refine Or.inl ?_
    unfold nbT at h ⊢
    split at h
    · omega
    · next q => rw [if_neg q]
theorem fsT_in {g : Nat → Int} {y : Int} (hg : gB g) (hy : 0 ≤ y ∧ y < 8) : ∀ (n : Nat) (a : Int), fsN y a ≤ n → (a = -1 ∨ insK g a) → fsT g y a = -1 ∨ insK g (fsT g y a) := by
  intro n
  induction n with
  | zero =>
    intro a hn ha
    have hb : a = -1 ∨ (0 ≤ a ∧ a < 80) := by
      rcases ha with q | q
      · exact Or.inl q
      · exact Or.inr (insK_80 hg q)
    have h0 := fsN_0 hb hn
    rw [fsT_n hg hy hb (by omega)]
    exact ha
  | succ n ih =>
    intro a hn ha
    have hb : a = -1 ∨ (0 ≤ a ∧ a < 80) := by
      rcases ha with q | q
      · exact Or.inl q
      · exact Or.inr (insK_80 hg q)
    by_cases q : 0 ≤ a ∧ g (4 + a.toNat) = -3
    · have ha8 : 0 ≤ a ∧ a < 80 := by omega
      rw [fsT_y hg hy ha8 q.2]
      have z := fsN_lt hg.1 hg.2 ha8 hy
      exact ih _ (by omega) (nbT_K hg)
    · rw [fsT_n hg hy hb q]
      exact ha
/-- the first cell that is not open, from a cell in a way -/
def s1T (g : Nat → Int) (k y : Int) : Int := fsT g y (nbT (g 0) (g 1) k y)
theorem s1T_in {g : Nat → Int} {k y : Int} (hg : gB g) (hy : 0 ≤ y ∧ y < 8) : s1T g k y = -1 ∨ insK g (s1T g k y) := fsT_in hg hy _ _ (Nat.le_refl _) (nbT_K hg)
def nxT (g : Nat → Int) (k y : Int) : Int := if 0 ≤ nbT (g 0) (g 1) k y ∧ g (4 + (nbT (g 0) (g 1) k y).toNat) = -3 then nbT (g 0) (g 1) k y else -1
def rfS (g : Nat → Int) (a b : Int) : Int := if 0 ≤ a ∧ g (4 + a.toNat) = -1 then (if 0 ≤ b ∧ g (4 + b.toNat) = -1 then -1 else b) else a
def rfM (g : Nat → Int) (a b : Int) : Int := if 0 ≤ a ∧ g (4 + a.toNat) = -1 then (if 0 ≤ b ∧ g (4 + b.toNat) = -1 then 2 else 1) else 0
def lkS (g : Nat → Int) (k y : Int) : Int := rfS g (s1T g k y) (s1T g k ((y + 4) % 8))
def lkM (g : Nat → Int) (k y : Int) : Int := rfM g (s1T g k y) (s1T g k ((y + 4) % 8))
def ownG (g : Nat → Int) (c : Int) : Int := if 0 ≤ c ∧ 0 ≤ g (4 + c.toNat) then g (4 + c.toNat) else 6
/-- what is drawn of a grid -/
def VWs (g : Nat → Int) (vn vs vm vf : Nat → Int32) : Prop := ∀ c w : Nat, c < 80 → w < 8 → (vn (8 * c + w)).toInt = nxT g c w ∧ (vs (8 * c + w)).toInt = lkS g c w ∧ (vm (8 * c + w)).toInt = lkM g c w ∧ (vf (8 * c + w)).toInt = ownG g (lkS g c w)
/-- the grid as the class holds it -/
def GC (g : Nat → Int) (cw ch : Int) (fc : Nat → Int32) : Prop := cw = g 0 ∧ ch = g 1 ∧ ∀ c : Nat, c < 80 → insG g c → (fc c).toInt = g (4 + c) + 3
theorem GC_at {g : Nat → Int} {cw ch k : Int} {fc : Nat → Int32} (h : GC g cw ch fc) (hg : gB g) (hk : 0 ≤ k ∧ k % 10 < cw ∧ k / 10 < ch) : (fc k.toNat).toInt = g (4 + k.toNat) + 3 ∧ k < 80 := by
  have h1 := hg.2
  have e1 := h.1
  have e2 := h.2.1
  refine ⟨h.2.2 k.toNat (by omega) ?_, by omega⟩
  unfold insG
  omega
theorem GC_K {g : Nat → Int} {cw ch k : Int} {fc : Nat → Int32} (h : GC g cw ch fc) : (0 ≤ k ∧ k % 10 < cw ∧ k / 10 < ch) ↔ insK g k := by
  unfold insK
  rw [h.1, h.2.1]
theorem nx_y {g : Nat → Int} {cw ch c y r : Int} {fc : Nat → Int32} (h : GC g cw ch fc) (hg : gB g) (hr : r = nbT cw ch c y) (ho : 0 ≤ r ∧ r % 10 < cw ∧ r / 10 < ch ∧ (fc r.toNat).toInt = 0) : r = nxT g c y := by
  have e := GC_at h hg ⟨ho.1, ho.2.1, ho.2.2.1⟩
  rw [h.1, h.2.1] at hr
  unfold nxT
  rw [← hr, if_pos (by omega)]
theorem nb_op {g : Nat → Int} {cw ch c y r : Int} {fc : Nat → Int32} (h : GC g cw ch fc) (hg : gB g) (hr : r = nbT cw ch c y) (ho : ¬ (0 ≤ r ∧ r % 10 < cw ∧ r / 10 < ch ∧ (fc r.toNat).toInt = 0)) : ¬ (0 ≤ r ∧ g (4 + r.toNat) = -3) := by
  intro z
  have q := nbT_in (w := cw) (h := ch) (c := c) (y := y) (by rw [h.1]; exact hg.1) (by rw [← hr]; exact z.1)
  rw [← hr] at q
  have e := GC_at h hg q
  exact ho ⟨q.1, q.2.1, q.2.2, by omega⟩
theorem nx_n {g : Nat → Int} {cw ch c y r : Int} {fc : Nat → Int32} (h : GC g cw ch fc) (hg : gB g) (hr : r = nbT cw ch c y) (ho : ¬ (0 ≤ r ∧ r % 10 < cw ∧ r / 10 < ch ∧ (fc r.toNat).toInt = 0)) : -1 = nxT g c y := by
  have z := nb_op h hg hr ho
  rw [h.1, h.2.1] at hr
  unfold nxT
  rw [← hr, if_neg z]
theorem s1_y {g : Nat → Int} {cw ch c y r s : Int} {fc : Nat → Int32} (h : GC g cw ch fc) (hg : gB g) (hy : 0 ≤ y ∧ y < 8) (hr : r = nbT cw ch c y) (ho : 0 ≤ r ∧ r % 10 < cw ∧ r / 10 < ch ∧ (fc r.toNat).toInt = 0) (hs : s = s1T g r y) : s = s1T g c y := by
  have e := GC_at h hg ⟨ho.1, ho.2.1, ho.2.2.1⟩
  rw [h.1, h.2.1] at hr
  rw [hs]
  unfold s1T
  rw [← hr]
  exact (fsT_y hg hy ⟨ho.1, e.2⟩ (by omega)).symm
theorem s1_n {g : Nat → Int} {cw ch c y r : Int} {fc : Nat → Int32} (h : GC g cw ch fc) (hg : gB g) (hy : 0 ≤ y ∧ y < 8) (hr : r = nbT cw ch c y) (hb : -1 ≤ r ∧ r < 80) (ho : ¬ (0 ≤ r ∧ r % 10 < cw ∧ r / 10 < ch ∧ (fc r.toNat).toInt = 0)) : r = s1T g c y := by
  have z := nb_op h hg hr ho
  rw [h.1, h.2.1] at hr
  unfold s1T
  rw [← hr]
  exact (fsT_n hg hy (by omega) z).symm
/-- a way, drawn as far as it is -/
def dn (fl i : Int) (c : Nat) : Prop := (fl = 0 ∧ (c : Int) < i) ∨ (¬ fl = 0 ∧ 80 ≤ (c : Int) + i)
def dwN (g : Nat → Int) (y : Int) (D : Nat → Prop) (vn0 vs0 vn vs : Nat → Int32) : Prop := (∀ c : Nat, c < 80 → D c → (vn (8 * c + y.toNat)).toInt = nxT g c y ∧ (vs (8 * c + y.toNat)).toInt = s1T g c y) ∧ ∀ j : Nat, ¬ j % 8 = y.toNat → vn j = vn0 j ∧ vs j = vs0 j
theorem dw_0 {g : Nat → Int} {y fl i : Int} {vn vs : Nat → Int32} (h : i ≤ 0) : dwN g y (dn fl i) vn vs vn vs := ⟨fun c hc hd => by unfold dn at hd; omega, fun _ _ => ⟨rfl, rfl⟩⟩
theorem dw_all {g : Nat → Int} {y fl i : Int} {vn0 vs0 vn vs : Nat → Int32} (h : dwN g y (dn fl i) vn0 vs0 vn vs) (hi : 80 ≤ i) : dwN g y (fun _ => True) vn0 vs0 vn vs := ⟨fun c hc _ => h.1 c hc (by unfold dn; omega), h.2⟩
theorem dw_get {g : Nat → Int} {y fl i be : Int} {vn0 vs0 vn vs : Nat → Int32} {x k : Int32} (h : dwN g y (dn fl i) vn0 vs0 vn vs) (hb : 0 ≤ be ∧ be < 80) (hd : (fl = 0 ∧ be < i) ∨ (¬ fl = 0 ∧ 80 ≤ be + i)) (hy : 0 ≤ y ∧ y < 8) (hk : k.toInt = be * 8 + y) (e : x = vs k.toNatClampNeg) : x.toInt = s1T g be y := by
  have h3 : k.toNatClampNeg = k.toInt.toNat := rfl
  have z := (h.1 be.toNat (by omega) (by unfold dn; omega)).2
  rw [show ((be.toNat : Nat) : Int) = be from by omega] at z
  rw [e, h3, show k.toInt.toNat = 8 * be.toNat + y.toNat from by omega]
  exact z
theorem dw_st {g : Nat → Int} {y fl i i2 c : Int} {vn0 vs0 vn vs vn2 vs2 : Nat → Int32} {a b v z : Int32} (h : dwN g y (dn fl i) vn0 vs0 vn vs) (e1 : upd vn a.toNatClampNeg v = vn2) (e2 : upd vs b.toNatClampNeg z = vs2) (ha : a.toInt = c * 8 + y) (hb : b.toInt = c * 8 + y) (hc : (fl = 0 ∧ c = i) ∨ (¬ fl = 0 ∧ c = 79 - i)) (hi : 0 ≤ i ∧ i < 80) (h2 : i2 = i + 1) (hy : 0 ≤ y ∧ y < 8) (hv : v.toInt = nxT g c y) (hz : z.toInt = s1T g c y) : dwN g y (dn fl i2) vn0 vs0 vn2 vs2 := by
  have h3 : a.toNatClampNeg = a.toInt.toNat := rfl
  have h4 : b.toNatClampNeg = b.toInt.toNat := rfl
  rw [← e1, ← e2]
  refine ⟨fun k hk hd => ?_, fun j hj => ?_⟩
  · show (if 8 * k + y.toNat = a.toNatClampNeg then v else vn (8 * k + y.toNat)).toInt = nxT g k y ∧ (if 8 * k + y.toNat = b.toNatClampNeg then z else vs (8 * k + y.toNat)).toInt = s1T g k y
    by_cases q : (k : Int) = c
    · rw [if_pos (by omega), if_pos (by omega), q]
      exact ⟨hv, hz⟩
    · rw [if_neg (by omega), if_neg (by omega)]
      exact h.1 k hk (by unfold dn at hd ⊢; omega)
  · show (if j = a.toNatClampNeg then v else vn j) = vn0 j ∧ (if j = b.toNatClampNeg then z else vs j) = vs0 j
    rw [if_neg (by omega), if_neg (by omega)]
    exact h.2 j hj
theorem dw_o {g : Nat → Int} {cw ch y fl i i2 c : Int} {fc vn0 vs0 vn vs vn2 vs2 : Nat → Int32} {a b v z : Int32} (h : GC g cw ch fc) (hg : gB g) (hy : 0 ≤ y ∧ y < 8) (hr : v.toInt = nbT cw ch c y) (ho : 0 ≤ v.toInt ∧ v.toInt % 10 < cw ∧ v.toInt / 10 < ch ∧ (fc v.toInt.toNat).toInt = 0) (hd : dwN g y (dn fl i) vn0 vs0 vn vs) (e1 : upd vn a.toNatClampNeg v = vn2) (e2 : upd vs b.toNatClampNeg z = vs2) (hs : z.toInt = s1T g v.toInt y) (ha : a.toInt = c * 8 + y) (hb : b.toInt = c * 8 + y) (hc : (fl = 0 ∧ c = i) ∨ (¬ fl = 0 ∧ c = 79 - i)) (hi : 0 ≤ i ∧ i < 80) (h2 : i2 = i + 1) : dwN g y (dn fl i2) vn0 vs0 vn2 vs2 :=
  dw_st hd e1 e2 ha hb hc hi h2 hy (nx_y h hg hr ho) (s1_y h hg hy hr ho hs)
theorem dw_s {g : Nat → Int} {cw ch y fl i i2 c : Int} {fc vn0 vs0 vn vs vn2 vs2 : Nat → Int32} {a b z : Int32} (h : GC g cw ch fc) (hg : gB g) (hy : 0 ≤ y ∧ y < 8) (hr : z.toInt = nbT cw ch c y) (ho : ¬ (0 ≤ z.toInt ∧ z.toInt % 10 < cw ∧ z.toInt / 10 < ch ∧ (fc z.toInt.toNat).toInt = 0)) (hz : -1 ≤ z.toInt ∧ z.toInt < 80) (hd : dwN g y (dn fl i) vn0 vs0 vn vs) (e1 : upd vn a.toNatClampNeg (-1) = vn2) (e2 : upd vs b.toNatClampNeg z = vs2) (ha : a.toInt = c * 8 + y) (hb : b.toInt = c * 8 + y) (hc : (fl = 0 ∧ c = i) ∨ (¬ fl = 0 ∧ c = 79 - i)) (hi : 0 ≤ i ∧ i < 80) (h2 : i2 = i + 1) : dwN g y (dn fl i2) vn0 vs0 vn2 vs2 :=
  dw_st hd e1 e2 ha hb hc hi h2 hy ((show (-1 : Int32).toInt = -1 by decide).trans (nx_n h hg hr ho)) (s1_n h hg hy hr hz ho)
/-- the ways drawn so far -/
def dwW (g : Nat → Int) (i : Int) (vn vs : Nat → Int32) : Prop := ∀ c w : Nat, c < 80 → (w : Int) < i → (vn (8 * c + w)).toInt = nxT g c w ∧ (vs (8 * c + w)).toInt = s1T g c w
theorem dwW_0 {g : Nat → Int} {i : Int} {vn vs : Nat → Int32} (h : i ≤ 0) : dwW g i vn vs := fun c w _ hw => absurd hw (by omega)
theorem dwW_st {g : Nat → Int} {i i2 : Int} {vn vs vn2 vs2 : Nat → Int32} (h : dwW g i vn vs) (hd : dwN g i (fun _ => True) vn vs vn2 vs2) (hi : 0 ≤ i ∧ i < 8) (h2 : i2 = i + 1) : dwW g i2 vn2 vs2 := by
  intro c w hc hw
  by_cases q : (w : Int) = i
  · have z := hd.1 c hc trivial
    rw [show i.toNat = w from by omega, ← q] at z
    exact z
  · have z := hd.2 (8 * c + w) (by omega)
    rw [z.1, z.2]
    exact h c w hc (by omega)
def fin8 (i j : Int) (c w : Nat) : Prop := (c : Int) < i ∨ ((c : Int) = i ∧ (w : Int) % 4 < j)
def rdW (g : Nat → Int) (i j : Int) (vn vs vm vf : Nat → Int32) : Prop := ∀ c w : Nat, c < 80 → w < 8 → (vn (8 * c + w)).toInt = nxT g c w ∧ (fin8 i j c w → (vs (8 * c + w)).toInt = lkS g c w ∧ (vm (8 * c + w)).toInt = lkM g c w ∧ (vf (8 * c + w)).toInt = ownG g (lkS g c w)) ∧ (¬ fin8 i j c w → (vs (8 * c + w)).toInt = s1T g c w)
theorem rdW_0 {g : Nat → Int} {i k j : Int} {vn vs vm vf : Nat → Int32} (h : dwW g i vn vs) (hi : 8 ≤ i) (hk : k ≤ 0) (hj : j ≤ 0) : rdW g k j vn vs vm vf := by
  intro c w hc hw
  have z := h c w hc (by omega)
  exact ⟨z.1, fun q => by unfold fin8 at q; omega, fun _ => z.2⟩
theorem rdW_n {g : Nat → Int} {i i2 j k : Int} {vn vs vm vf : Nat → Int32} (h : rdW g i j vn vs vm vf) (hj : 4 ≤ j) (h2 : i2 = i + 1) (hk : k ≤ 0) : rdW g i2 k vn vs vm vf := by
  intro c w hc hw
  have z := h c w hc hw
  exact ⟨z.1, fun q => z.2.1 (by unfold fin8 at q ⊢; omega), fun q => z.2.2 (fun y => q (by unfold fin8 at y ⊢; omega))⟩
theorem rdW_in {g : Nat → Int} {i j k : Int} {vn vs vm vf : Nat → Int32} (h : rdW g i j vn vs vm vf) (hj : j ≤ 0) (hk : k ≤ 0) : rdW g i k vn vs vm vf := by
  intro c w hc hw
  have z := h c w hc hw
  exact ⟨z.1, fun q => z.2.1 (by unfold fin8 at q ⊢; omega), fun q => z.2.2 (fun y => q (by unfold fin8 at y ⊢; omega))⟩
theorem rdW_end {g : Nat → Int} {i j : Int} {vn vs vm vf : Nat → Int32} (h : rdW g i j vn vs vm vf) (hi : 80 ≤ i) : VWs g vn vs vm vf := by
  intro c w hc hw
  have z := h c w hc hw
  exact ⟨z.1, z.2.1 (by unfold fin8; omega)⟩
/-- two opposite ways settled -/
def RF (g : Nat → Int) (vs vm vf vs2 vm2 vf2 : Nat → Int32) (u v : Nat) (A B : Int) : Prop := ∃ p q pm qm po qo : Int32, p.toInt = rfS g A B ∧ q.toInt = rfS g B A ∧ pm.toInt = rfM g A B ∧ qm.toInt = rfM g B A ∧ po.toInt = ownG g (rfS g A B) ∧ qo.toInt = ownG g (rfS g B A) ∧ vs2 = upd (upd vs u p) v q ∧ vm2 = upd (upd vm u pm) v qm ∧ vf2 = upd (upd vf u po) v qo
theorem rf_mk {g : Nat → Int} {vs vm vf s1 m1 f1 s2 m2 f2 : Nat → Int32} {u v X Y MX MY : Int32} {A B : Int} (h1 : s1 = upd vs u.toNatClampNeg X) (h2 : m1 = upd vm u.toNatClampNeg MX) (h3 : ∃ o : Int32, o.toInt = ownG g X.toInt ∧ f1 = upd vf u.toNatClampNeg o) (k1 : s2 = upd s1 v.toNatClampNeg Y) (k2 : m2 = upd m1 v.toNatClampNeg MY) (k3 : ∃ o : Int32, o.toInt = ownG g Y.toInt ∧ f2 = upd f1 v.toNatClampNeg o) (hX : X.toInt = rfS g A B ∧ Y.toInt = rfS g B A ∧ MX.toInt = rfM g A B ∧ MY.toInt = rfM g B A) : RF g vs vm vf s2 m2 f2 u.toNatClampNeg v.toNatClampNeg A B := by
  obtain ⟨o, h3, h4⟩ := h3
  obtain ⟨o2, k3, k4⟩ := k3
  refine ⟨X, Y, MX, MY, o, o2, hX.1, hX.2.1, hX.2.2.1, hX.2.2.2, ?_, ?_, ?_, ?_, ?_⟩
  · rw [h3, hX.1]
  · rw [k3, hX.2.1]
  · rw [k1, h1]
  · rw [k2, h2]
  · rw [k4, h4]
theorem mr_y {g : Nat → Int} {cw ch k : Int} {fc : Nat → Int32} (h : GC g cw ch fc) (hg : gB g) (hm : 0 ≤ k ∧ k % 10 < cw ∧ k / 10 < ch ∧ (fc k.toNat).toInt = 2) : 0 ≤ k ∧ g (4 + k.toNat) = -1 := by
  have e := GC_at h hg ⟨hm.1, hm.2.1, hm.2.2.1⟩
  omega
theorem mr_n {g : Nat → Int} {cw ch k : Int} {fc : Nat → Int32} (h : GC g cw ch fc) (hg : gB g) (hk : k = -1 ∨ insK g k) (hm : ¬ (0 ≤ k ∧ k % 10 < cw ∧ k / 10 < ch ∧ (fc k.toNat).toInt = 2)) : ¬ (0 ≤ k ∧ g (4 + k.toNat) = -1) := by
  intro z
  rcases hk with q | q
  · omega
  · have q2 := (GC_K h).mpr q
    have e := GC_at h hg q2
    exact hm ⟨q2.1, q2.2.1, q2.2.2, by omega⟩
theorem rf_v11 {g : Nat → Int} {A B : Int} {X Y MX MY : Int32} (ha : 0 ≤ A ∧ g (4 + A.toNat) = -1) (hb : 0 ≤ B ∧ g (4 + B.toNat) = -1) (hX : X.toInt = -1) (hY : Y.toInt = -1) (hM : MX.toInt = 2) (hN : MY.toInt = 2) : X.toInt = rfS g A B ∧ Y.toInt = rfS g B A ∧ MX.toInt = rfM g A B ∧ MY.toInt = rfM g B A := by
  unfold rfS rfM
  rw [if_pos ha, if_pos hb, if_pos hb, if_pos ha, if_pos ha, if_pos hb, if_pos hb, if_pos ha]
  exact ⟨hX, hY, hM, hN⟩
theorem rf_v10 {g : Nat → Int} {A B : Int} {X Y MX MY : Int32} (ha : 0 ≤ A ∧ g (4 + A.toNat) = -1) (hb : ¬ (0 ≤ B ∧ g (4 + B.toNat) = -1)) (hX : X.toInt = B) (hY : Y.toInt = B) (hM : MX.toInt = 1) (hN : MY.toInt = 0) : X.toInt = rfS g A B ∧ Y.toInt = rfS g B A ∧ MX.toInt = rfM g A B ∧ MY.toInt = rfM g B A := by
  unfold rfS rfM
  rw [if_pos ha, if_neg hb, if_neg hb, if_pos ha, if_neg hb, if_neg hb]
  exact ⟨hX, hY, hM, hN⟩
theorem rf_v01 {g : Nat → Int} {A B : Int} {X Y MX MY : Int32} (ha : ¬ (0 ≤ A ∧ g (4 + A.toNat) = -1)) (hb : 0 ≤ B ∧ g (4 + B.toNat) = -1) (hX : X.toInt = A) (hY : Y.toInt = A) (hM : MX.toInt = 0) (hN : MY.toInt = 1) : X.toInt = rfS g A B ∧ Y.toInt = rfS g B A ∧ MX.toInt = rfM g A B ∧ MY.toInt = rfM g B A := by
  unfold rfS rfM
  rw [if_neg ha, if_pos hb, if_neg ha, if_neg ha, if_pos hb, if_neg ha]
  exact ⟨hX, hY, hM, hN⟩
theorem rf_v00 {g : Nat → Int} {A B : Int} {X Y MX MY : Int32} (ha : ¬ (0 ≤ A ∧ g (4 + A.toNat) = -1)) (hb : ¬ (0 ≤ B ∧ g (4 + B.toNat) = -1)) (hX : X.toInt = A) (hY : Y.toInt = B) (hM : MX.toInt = 0) (hN : MY.toInt = 0) : X.toInt = rfS g A B ∧ Y.toInt = rfS g B A ∧ MX.toInt = rfM g A B ∧ MY.toInt = rfM g B A := by
  unfold rfS rfM
  rw [if_neg ha, if_neg hb, if_neg ha, if_neg hb]
  exact ⟨hX, hY, hM, hN⟩
theorem rf_11 {g : Nat → Int} {cw ch : Int} {fc vs vm vf s1 m1 f1 s2 m2 f2 : Nat → Int32} {u v xa xb : Int32} (ea : xa = vs u.toNatClampNeg) (eb : xb = vs v.toNatClampNeg) (h : GC g cw ch fc) (hg : gB g) (ma : 0 ≤ xa.toInt ∧ xa.toInt % 10 < cw ∧ xa.toInt / 10 < ch ∧ (fc xa.toInt.toNat).toInt = 2) (mb : 0 ≤ xb.toInt ∧ xb.toInt % 10 < cw ∧ xb.toInt / 10 < ch ∧ (fc xb.toInt.toNat).toInt = 2) (h1 : s1 = upd vs u.toNatClampNeg (-1)) (h2 : m1 = upd vm u.toNatClampNeg 2) (h3 : ∃ o : Int32, o.toInt = ownG g (-1 : Int32).toInt ∧ f1 = upd vf u.toNatClampNeg o) (k1 : s2 = upd s1 v.toNatClampNeg (-1)) (k2 : m2 = upd m1 v.toNatClampNeg 2) (k3 : ∃ o : Int32, o.toInt = ownG g (-1 : Int32).toInt ∧ f2 = upd f1 v.toNatClampNeg o) : RF g vs vm vf s2 m2 f2 u.toNatClampNeg v.toNatClampNeg (vs u.toNatClampNeg).toInt (vs v.toNatClampNeg).toInt := by
  rw [← ea, ← eb]
  exact rf_mk h1 h2 h3 k1 k2 k3 (rf_v11 (mr_y h hg ma) (mr_y h hg mb) (by decide) (by decide) (by decide) (by decide))
theorem rf_10 {g : Nat → Int} {cw ch : Int} {fc vs vm vf s1 m1 f1 s2 m2 f2 : Nat → Int32} {u v xa xb : Int32} (ea : xa = vs u.toNatClampNeg) (eb : xb = vs v.toNatClampNeg) (h : GC g cw ch fc) (hg : gB g) (kb : xb.toInt = -1 ∨ insK g xb.toInt) (ma : 0 ≤ xa.toInt ∧ xa.toInt % 10 < cw ∧ xa.toInt / 10 < ch ∧ (fc xa.toInt.toNat).toInt = 2) (mb : ¬ (0 ≤ xb.toInt ∧ xb.toInt % 10 < cw ∧ xb.toInt / 10 < ch ∧ (fc xb.toInt.toNat).toInt = 2)) (h1 : s1 = upd vs u.toNatClampNeg xb) (h2 : m1 = upd vm u.toNatClampNeg 1) (h3 : ∃ o : Int32, o.toInt = ownG g xb.toInt ∧ f1 = upd vf u.toNatClampNeg o) (k1 : s2 = upd s1 v.toNatClampNeg xb) (k2 : m2 = upd m1 v.toNatClampNeg 0) (k3 : ∃ o : Int32, o.toInt = ownG g xb.toInt ∧ f2 = upd f1 v.toNatClampNeg o) : RF g vs vm vf s2 m2 f2 u.toNatClampNeg v.toNatClampNeg (vs u.toNatClampNeg).toInt (vs v.toNatClampNeg).toInt := by
  rw [← ea, ← eb]
  exact rf_mk h1 h2 h3 k1 k2 k3 (rf_v10 (mr_y h hg ma) (mr_n h hg kb mb) rfl rfl (by decide) (by decide))
theorem rf_01 {g : Nat → Int} {cw ch : Int} {fc vs vm vf s1 m1 f1 s2 m2 f2 : Nat → Int32} {u v xa xb : Int32} (ea : xa = vs u.toNatClampNeg) (eb : xb = vs v.toNatClampNeg) (h : GC g cw ch fc) (hg : gB g) (ka : xa.toInt = -1 ∨ insK g xa.toInt) (ma : ¬ (0 ≤ xa.toInt ∧ xa.toInt % 10 < cw ∧ xa.toInt / 10 < ch ∧ (fc xa.toInt.toNat).toInt = 2)) (mb : 0 ≤ xb.toInt ∧ xb.toInt % 10 < cw ∧ xb.toInt / 10 < ch ∧ (fc xb.toInt.toNat).toInt = 2) (h1 : s1 = upd vs u.toNatClampNeg xa) (h2 : m1 = upd vm u.toNatClampNeg 0) (h3 : ∃ o : Int32, o.toInt = ownG g xa.toInt ∧ f1 = upd vf u.toNatClampNeg o) (k1 : s2 = upd s1 v.toNatClampNeg xa) (k2 : m2 = upd m1 v.toNatClampNeg 1) (k3 : ∃ o : Int32, o.toInt = ownG g xa.toInt ∧ f2 = upd f1 v.toNatClampNeg o) : RF g vs vm vf s2 m2 f2 u.toNatClampNeg v.toNatClampNeg (vs u.toNatClampNeg).toInt (vs v.toNatClampNeg).toInt := by
  rw [← ea, ← eb]
  exact rf_mk h1 h2 h3 k1 k2 k3 (rf_v01 (mr_n h hg ka ma) (mr_y h hg mb) rfl rfl (by decide) (by decide))
theorem rf_00 {g : Nat → Int} {cw ch : Int} {fc vs vm vf s1 m1 f1 s2 m2 f2 : Nat → Int32} {u v xa xb : Int32} (ea : xa = vs u.toNatClampNeg) (eb : xb = vs v.toNatClampNeg) (h : GC g cw ch fc) (hg : gB g) (ka : xa.toInt = -1 ∨ insK g xa.toInt) (kb : xb.toInt = -1 ∨ insK g xb.toInt) (ma : ¬ (0 ≤ xa.toInt ∧ xa.toInt % 10 < cw ∧ xa.toInt / 10 < ch ∧ (fc xa.toInt.toNat).toInt = 2)) (mb : ¬ (0 ≤ xb.toInt ∧ xb.toInt % 10 < cw ∧ xb.toInt / 10 < ch ∧ (fc xb.toInt.toNat).toInt = 2)) (h1 : s1 = upd vs u.toNatClampNeg xa) (h2 : m1 = upd vm u.toNatClampNeg 0) (h3 : ∃ o : Int32, o.toInt = ownG g xa.toInt ∧ f1 = upd vf u.toNatClampNeg o) (k1 : s2 = upd s1 v.toNatClampNeg xb) (k2 : m2 = upd m1 v.toNatClampNeg 0) (k3 : ∃ o : Int32, o.toInt = ownG g xb.toInt ∧ f2 = upd f1 v.toNatClampNeg o) : RF g vs vm vf s2 m2 f2 u.toNatClampNeg v.toNatClampNeg (vs u.toNatClampNeg).toInt (vs v.toNatClampNeg).toInt := by
  rw [← ea, ← eb]
  exact rf_mk h1 h2 h3 k1 k2 k3 (rf_v00 (mr_n h hg ka ma) (mr_n h hg kb mb) rfl rfl (by decide) (by decide))
theorem rdW_st {g : Nat → Int} {i j j2 : Int} {vn vs vm vf vs2 vm2 vf2 : Nat → Int32} {u v : Int32} {A B : Int} (h : rdW g i j vn vs vm vf) (r : RF g vs vm vf vs2 vm2 vf2 u.toNatClampNeg v.toNatClampNeg A B) (hi : 0 ≤ i ∧ i < 80) (hj : 0 ≤ j ∧ j < 4) (h2 : j2 = j + 1) (hu : u.toInt = i * 8 + j) (hv : v.toInt = i * 8 + j + 4) (hA : A = s1T g i j) (hB : B = s1T g i (j + 4)) : rdW g i j2 vn vs2 vm2 vf2 := by
  have h3 : u.toNatClampNeg = u.toInt.toNat := rfl
  have h4 : v.toNatClampNeg = v.toInt.toNat := rfl
  obtain ⟨p, q, pm, qm, po, qo, r1, r2, r3, r4, r5, r6, rfl, rfl, rfl⟩ := r
  intro c w hc hw
  have z := h c w hc hw
  have key : ∀ (f : Nat → Int32) (a b : Int32), upd (upd f u.toNatClampNeg a) v.toNatClampNeg b (8 * c + w) = if 8 * c + w = v.toNatClampNeg then b else if 8 * c + w = u.toNatClampNeg then a else f (8 * c + w) := fun _ _ _ => rfl
  refine ⟨z.1, ?_⟩
  rw [key, key, key]
  by_cases q1 : 8 * c + w = v.toNatClampNeg
  · rw [if_pos q1, if_pos q1, if_pos q1]
    have e1 : (c : Int) = i := by omega
    have e2 : (w : Int) = j + 4 := by omega
    have e3 : lkS g c w = rfS g B A := by
      unfold lkS
      rw [e1, e2, show (j + 4 + 4) % 8 = j from by omega, hA, hB]
    have e4 : lkM g c w = rfM g B A := by
      unfold lkM
      rw [e1, e2, show (j + 4 + 4) % 8 = j from by omega, hA, hB]
    rw [e3, e4]
    exact ⟨fun _ => ⟨r2, r4, r6⟩, fun y => absurd (show fin8 i j2 c w by unfold fin8; omega) y⟩
  · rw [if_neg q1, if_neg q1, if_neg q1]
    by_cases q2 : 8 * c + w = u.toNatClampNeg
    · rw [if_pos q2, if_pos q2, if_pos q2]
      have e1 : (c : Int) = i := by omega
      have e2 : (w : Int) = j := by omega
      have e3 : lkS g c w = rfS g A B := by
        unfold lkS
        rw [e1, e2, show (j + 4) % 8 = j + 4 from by omega, hA, hB]
      have e4 : lkM g c w = rfM g A B := by
        unfold lkM
        rw [e1, e2, show (j + 4) % 8 = j + 4 from by omega, hA, hB]
      rw [e3, e4]
      exact ⟨fun _ => ⟨r1, r3, r5⟩, fun y => absurd (show fin8 i j2 c w by unfold fin8; omega) y⟩
    · rw [if_neg q2, if_neg q2, if_neg q2]
      exact ⟨fun y => z.2.1 (by unfold fin8 at y ⊢; omega), fun y => z.2.2 (fun x => y (by unfold fin8 at x ⊢; omega))⟩
theorem rd_at {g : Nat → Int} {i j w : Int} {vn vs vm vf : Nat → Int32} {u : Int32} (h : rdW g i j vn vs vm vf) (hi : 0 ≤ i ∧ i < 80) (hw : 0 ≤ w ∧ w < 8) (hj : j ≤ w % 4) (hu : u.toInt = i * 8 + w) : (vs u.toNatClampNeg).toInt = s1T g i w := by
  have h3 : u.toNatClampNeg = u.toInt.toNat := rfl
  have z := (h i.toNat w.toNat (by omega) (by omega)).2.2 (by unfold fin8; omega)
  rw [show ((i.toNat : Nat) : Int) = i from by omega, show ((w.toNat : Nat) : Int) = w from by omega] at z
  rw [h3, show u.toInt.toNat = 8 * i.toNat + w.toNat from by omega]
  exact z
theorem own_x {g : Nat → Int} {cw ch k r : Int} {fc : Nat → Int32} (h : GC g cw ch fc) (hg : gB g) (hk : k = -1 ∨ insK g k) (ho : (0 ≤ k ∧ k % 10 < cw ∧ k / 10 < ch ∧ 3 ≤ (fc k.toNat).toInt ∧ r = (fc k.toNat).toInt - 3 ∧ r ≤ 5) ∨ (¬ (0 ≤ k ∧ k % 10 < cw ∧ k / 10 < ch ∧ 3 ≤ (fc k.toNat).toInt) ∧ r = 6)) : r = ownG g k := by
  unfold ownG
  rcases ho with ⟨a1, a2, a3, b, c, _⟩ | ⟨a, b⟩
  · have e := GC_at h hg ⟨a1, a2, a3⟩
    rw [if_pos (by omega)]
    omega
  · rw [if_neg ?_]
    · exact b
    · intro z
      rcases hk with q | q
      · omega
      · have q2 := (GC_K h).mpr q
        have e := GC_at h hg q2
        exact a ⟨q2.1, q2.2.1, q2.2.2, by omega⟩
theorem set_f {f g : Nat → Int32} {k : Nat} {o : Int32} {P : Int} (e : upd f k o = g) (h : o.toInt = P) : ∃ o : Int32, o.toInt = P ∧ g = upd f k o := ⟨o, h, e.symm⟩
def gOf (cw ch : Int) (fc : Nat → Int32) (j : Nat) : Int := if j = 0 then cw else if j = 1 then ch else (fc (j - 4)).toInt - 3
theorem GC_of (cw ch : Int) (fc : Nat → Int32) : GC (gOf cw ch fc) cw ch fc := by
  refine ⟨rfl, rfl, fun c _ _ => ?_⟩
  unfold gOf
  rw [if_neg (by omega), if_neg (by omega), show 4 + c - 4 = c from by omega]
  omega
-- what is free is 0 or 1
def F01 (F : Nat → Int) : Prop := ∀ j : Nat, F j = 0 ∨ F j = 1
theorem F01_0 : F01 (fun _ => 0) := fun _ => Or.inl rfl
theorem F01_u {F : Nat → Int} {k : Int} {C : Prop} (h : F01 F) : F01 (updI F k (ifP C 1 0)) := by
  intro j
  show (if (j : Int) = k then ifP C 1 0 else F j) = 0 ∨ (if (j : Int) = k then ifP C 1 0 else F j) = 1
  split
  · rcases Classical.em C with q | q
    · rw [ifP_y q]; exact Or.inr rfl
    · rw [ifP_n q]; exact Or.inl rfl
  · exact h j
theorem ifP_i {α : Type} {P : Prop} {x y : α} (Q : α → Prop) (hx : Q x) (hy : Q y) : Q (ifP P x y) := by
  rcases Classical.em P with q | q
  · rw [ifP_y q]; exact hx
  · rw [ifP_n q]; exact hy
def rF (z : Int × Int × Int × Int × Int × (Nat → Int) × (Nat → Int) × (Nat → Int) × (Nat → Int) × (Nat → Int)) : Prop := F01 z.2.2.2.2.2.2.1
theorem rF_f (f p : Int) : rF (fltR f p) := F01_0
theorem rQA_F {t : Int → Int} {w h : Int} {P F : Nat → Int} (hF : F01 F) : ∀ (k : Nat) (n a : Int) (L H M : Nat → Int), rF (rQA t w h P F k n a L H M) := by
  intro k
  induction k with
  | zero => intro n a L H M; exact rF_f _ _
  | succ k ih =>
    intro n a L H M
    exact ifP_i rF (ifP_i rF (rF_f _ _) (ifP_i rF (rF_f _ _) (ifP_i rF (rF_f _ _) (ifP_i rF (ih _ _ _ _ _) (rF_f _ _))))) (ifP_i rF (show rF (okR w h n P F L H M) from hF) (rF_f _ _))
theorem rPA_F {t : Int → Int} {w h : Int} : ∀ (k : Nat) (n a : Int) (P F : Nat → Int), F01 F → rF (rPA t w h k n a P F) := by
  intro k
  induction k with
  | zero => intro n a P F _; exact rF_f _ _
  | succ k ih =>
    intro n a P F hF
    exact ifP_i rF (ifP_i rF (rF_f _ _) (ifP_i rF (rF_f _ _) (ifP_i rF (rF_f _ _) (ifP_i rF (ih _ _ _ _ (F01_u hF)) (rF_f _ _))))) (rQA_F hF _ _ _ _ _ _)
theorem rRA_F {t : Int → Int} : ∀ (k : Nat) (h w a : Int), rF (rRA t k h w a) := by
  intro k
  induction k with
  | zero => intro h w a; exact rF_f _ _
  | succ k ih =>
    intro h w a
    exact ifP_i rF (ifP_i rF (rF_f _ _) (ifP_i rF (rF_f _ _) (ifP_i rF (ih _ _ _) (rF_f _ _)))) (rPA_F _ _ _ _ _ F01_0)
theorem RD_F (t : Int → Int) : rF (RD t) := ifP_i rF (rRA_F _ _ _ _) (rF_f _ _)
-- the city as it goes: 96 + 4p places, 99 + 4p steps, 120 + 6p + o paid, 156 + 6p + o blinks
noncomputable def gT2 (t : Int → Int) (j : Nat) : Int := if j < 96 ∨ (j < 120 ∧ (j % 4 = 1 ∨ j % 4 = 2)) then gT t j else if j < 120 ∧ j % 4 = 0 then (RD t).2.2.2.2.2.2.2.1 ((j - 96) / 4) else 0
theorem gT2_s {t : Int → Int} {j : Nat} (h : stI j) : gT2 t j = gT t j := by
  unfold stI at h
  unfold gT2
  rw [if_pos (by omega)]
theorem CXs_cg {g g2 : Nat → Int} {cw ch cp : Int32} {fc fp ff fh fm : Nat → Int32} (h : CXs g cw ch cp fc fp ff fh fm) (e : ∀ j : Nat, stI j → g2 j = g j) (h6 : g 3 ≤ 6) : CXs g2 cw ch cp fc fp ff fh fm := by
  have e0 := e 0 (by unfold stI; omega)
  have e1 := e 1 (by unfold stI; omega)
  have e3 := e 3 (by unfold stI; omega)
  refine ⟨by rw [e0]; exact h.1, by rw [e1]; exact h.2.1, by rw [e3]; exact h.2.2.1, fun c hc hi => ?_, fun j hj => ?_, fun j hj => ?_, fun p hp => ?_, fun p hp => ?_⟩
  · unfold insG at hi
    rw [e0, e1] at hi
    rw [e (4 + c) (by unfold stI; omega)]
    exact h.2.2.2.1 c hc hi
  · rw [e (84 + j) (by unfold stI; omega)]
    exact h.2.2.2.2.1 j hj
  · rw [e (90 + j) (by unfold stI; omega)]
    exact h.2.2.2.2.2.1 j hj
  · rw [e3] at hp
    rw [e (97 + 4 * p) (by unfold stI; omega)]
    exact h.2.2.2.2.2.2.1 p hp
  · rw [e3] at hp
    rw [e (98 + 4 * p) (by unfold stI; omega)]
    exact h.2.2.2.2.2.2.2 p hp
theorem CYs_cg {g g2 : Nat → Int} {cy : Nat → Int32} (h : CYs g cy) (e : ∀ j : Nat, stI j → g2 j = g j) (h6 : g 3 ≤ 6) : CYs g2 cy := by
  have e0 := e 0 (by unfold stI; omega)
  have e1 := e 1 (by unfold stI; omega)
  have e3 := e 3 (by unfold stI; omega)
  refine ⟨fun j hj => ?_, fun c hc hi => ?_, fun p hp => ?_⟩
  · rw [e j (by unfold stI; omega)]
    exact h.1 j hj
  · unfold insG at hi
    rw [e0, e1] at hi
    rw [e (4 + c) (by unfold stI; omega)]
    exact h.2.1 c hc hi
  · rw [e3] at hp
    rw [e (97 + 4 * p) (by unfold stI; omega), e (98 + 4 * p) (by unfold stI; omega)]
    exact h.2.2 p hp
def CXd (g : Nat → Int) (fl fg fd fb : Nat → Int32) : Prop := ∀ p : Nat, (p : Int) < g 3 → (fl p).toInt = g (96 + 4 * p) ∧ (fg p).toInt = g (99 + 4 * p) ∧ ∀ o : Nat, o < 6 → (fd (6 * p + o)).toInt = g (120 + 6 * p + o) ∧ (fb (6 * p + o)).toInt = g (156 + 6 * p + o)
def CYd (g : Nat → Int) (cy : Nat → Int32) : Prop := ∀ p : Nat, (p : Int) < g 3 → (cy (96 + 4 * p)).toInt = g (96 + 4 * p) ∧ (cy (99 + 4 * p)).toInt = g (99 + 4 * p) ∧ ∀ o : Nat, o < 6 → (cy (120 + 6 * p + o)).toInt = g (120 + 6 * p + o) ∧ (cy (156 + 6 * p + o)).toInt = g (156 + 6 * p + o)
theorem gT2_3 (t : Int → Int) : gT2 t 3 = gT t 3 := gT2_s (by unfold stI; omega)
theorem gT2_L {t : Int → Int} {p : Nat} (hp : p < 6) : gT2 t (96 + 4 * p) = (RD t).2.2.2.2.2.2.2.1 p := by
  unfold gT2
  rw [if_neg (by omega), if_pos (by omega), show (96 + 4 * p - 96) / 4 = p from by omega]
theorem gT2_z {t : Int → Int} {j : Nat} (h : 120 ≤ j ∨ (96 ≤ j ∧ j % 4 = 3)) : gT2 t j = 0 := by
  unfold gT2
  rw [if_neg (by omega), if_neg (by omega)]
theorem gT2_x {t : Int → Int} {cw ch cp : Int32} {fc fp ff fl fh fm fg fd fb : Nat → Int32} (h : CIT t cw.toInt ch.toInt cp.toInt fc fp ff fl fh fm fg fd fb) (hw : cw.toInt ≤ 10) (hh : ch.toInt ≤ 8) (hn : cp.toInt ≤ 6) : CXs (gT2 t) cw ch cp fc fp ff fh fm ∧ CXd (gT2 t) fl fg fd fb := by
  have hs := gT_x h hw hh hn
  have e3 := hs.2.2.1
  refine ⟨CXs_cg hs (fun j hj => gT2_s hj) (by omega), fun p hp => ?_⟩
  rw [gT2_3, ← e3] at hp
  refine ⟨?_, ?_, fun o ho => ⟨?_, ?_⟩⟩
  · rw [gT2_L (by omega), h.1]
    show _ = pN cp.toInt fl p
    exact (if_pos hp).symm
  · rw [gT2_z (by omega), h.2.2.1 p (by omega)]
    rfl
  · rw [gT2_z (by omega), h.2.2.2.1 (6 * p + o) (by omega)]
    rfl
  · rw [gT2_z (by omega), h.2.2.2.2.1 (6 * p + o) (by omega)]
    rfl
theorem gT2_y {t : Int → Int} {cy : Nat → Int32} (h : CIm t cy) (hn : (cy 3).toInt ≤ 6) : CYs (gT2 t) cy ∧ CYd (gT2 t) cy := by
  have hs := gT_y h
  have e3 := hs.1 3 (by omega)
  refine ⟨CYs_cg hs (fun j hj => gT2_s hj) (by omega), fun p hp => ?_⟩
  rw [gT2_3, ← e3] at hp
  refine ⟨?_, ?_, fun o ho => ⟨?_, ?_⟩⟩
  · rw [gT2_L (by omega), h.1]
    show _ = pNM 96 (cy 3).toInt cy p
    exact (if_pos hp).symm
  · rw [gT2_z (by omega), h.2.2.1 (99 + 4 * p) (by omega) (by omega)]
    rfl
  · rw [gT2_z (by omega), h.2.2.1 (120 + 6 * p + o) (by omega) (by omega)]
    rfl
  · rw [gT2_z (by omega), h.2.2.1 (156 + 6 * p + o) (by omega) (by omega)]
    rfl
def gF (g : Nat → Int) : Prop := ∀ j : Nat, j < 6 → g (90 + j) = 0 ∨ g (90 + j) = 1
theorem gT2_F (t : Int → Int) : gF (gT2 t) := by
  intro j hj
  rw [gT2_s (by unfold stI; omega)]
  unfold gT
  rw [if_neg (by omega), if_neg (by omega), if_neg (by omega), if_neg (by omega), if_neg (by omega), if_neg (by omega), if_pos (by omega)]
  exact RD_F t _
theorem GC_s {g : Nat → Int} {cw ch cp : Int32} {fc fp ff fh fm : Nat → Int32} (h : CXs g cw ch cp fc fp ff fh fm) : GC g cw.toInt ch.toInt fc := ⟨h.1, h.2.1, h.2.2.2.1⟩
-- what is seen depends on the grid alone
theorem fsA_cg {g g2 : Nat → Int} {y : Int} (e : ∀ j : Nat, j < 84 → g2 j = g j) (hg : gB g) (hy : 0 ≤ y ∧ y < 8) : ∀ (n : Nat) (a : Int), (a = -1 ∨ (0 ≤ a ∧ a < 80)) → fsA g2 y n a = fsA g y n a := by
  intro n
  induction n with
  | zero => intro a _; rfl
  | succ n ih =>
    intro a ha
    show (if 0 ≤ a ∧ g2 (4 + a.toNat) = -3 then fsA g2 y n (nbT (g2 0) (g2 1) a y) else a) = (if 0 ≤ a ∧ g (4 + a.toNat) = -3 then fsA g y n (nbT (g 0) (g 1) a y) else a)
    rw [e 0 (by omega), e 1 (by omega), e (4 + a.toNat) (by omega)]
    by_cases q : 0 ≤ a ∧ g (4 + a.toNat) = -3
    · rw [if_pos q, if_pos q]
      exact ih _ (fsN_lt hg.1 hg.2 (show 0 ≤ a ∧ a < 80 by omega) hy).2
    · rw [if_neg q, if_neg q]
theorem s1T_cg {g g2 : Nat → Int} {k y : Int} (e : ∀ j : Nat, j < 84 → g2 j = g j) (hg : gB g) (hy : 0 ≤ y ∧ y < 8) (hk : 0 ≤ k ∧ k < 80) : s1T g2 k y = s1T g k y := by
  unfold s1T fsT
  rw [e 0 (by omega), e 1 (by omega)]
  exact fsA_cg e hg hy _ _ (fsN_lt hg.1 hg.2 hk hy).2
theorem rf_cg {g g2 : Nat → Int} {a b : Int} (e : ∀ j : Nat, j < 84 → g2 j = g j) (ha : a = -1 ∨ (0 ≤ a ∧ a < 80)) (hb : b = -1 ∨ (0 ≤ b ∧ b < 80)) : rfS g2 a b = rfS g a b ∧ rfM g2 a b = rfM g a b := by
  unfold rfS rfM
  rw [e (4 + a.toNat) (by omega), e (4 + b.toNat) (by omega)]
  exact ⟨rfl, rfl⟩
theorem in_80 {g : Nat → Int} {k : Int} (hg : gB g) (h : k = -1 ∨ insK g k) : k = -1 ∨ (0 ≤ k ∧ k < 80) := by
  rcases h with q | q
  · exact Or.inl q
  · exact Or.inr (insK_80 hg q)
theorem lk_in {g : Nat → Int} {k y : Int} (hg : gB g) (hy : 0 ≤ y ∧ y < 8) : lkS g k y = -1 ∨ insK g (lkS g k y) := by
  have a := s1T_in (k := k) hg hy
  have b := s1T_in (k := k) (y := (y + 4) % 8) hg (by omega)
  unfold lkS rfS
  split
  · split
    · exact Or.inl rfl
    · exact b
  · exact a
theorem lkM_b (g : Nat → Int) (k y : Int) : 0 ≤ lkM g k y ∧ lkM g k y ≤ 2 := by
  unfold lkM rfM
  split
  · split <;> omega
  · omega
theorem lk_cg {g g2 : Nat → Int} {k y : Int} (e : ∀ j : Nat, j < 84 → g2 j = g j) (hg : gB g) (hy : 0 ≤ y ∧ y < 8) (hk : 0 ≤ k ∧ k < 80) : lkS g2 k y = lkS g k y ∧ lkM g2 k y = lkM g k y ∧ nxT g2 k y = nxT g k y ∧ ownG g2 (lkS g2 k y) = ownG g (lkS g k y) := by
  have a := in_80 hg (s1T_in (k := k) hg hy)
  have b := in_80 hg (s1T_in (k := k) (y := (y + 4) % 8) hg (by omega))
  have r := rf_cg e a b
  have q : lkS g2 k y = lkS g k y := by
    unfold lkS
    rw [s1T_cg e hg hy hk, s1T_cg e hg (by omega) hk]
    exact r.1
  have l := in_80 hg (lk_in (k := k) hg hy)
  refine ⟨q, ?_, ?_, ?_⟩
  · unfold lkM
    rw [s1T_cg e hg hy hk, s1T_cg e hg (by omega) hk]
    exact r.2
  · unfold nxT
    have z := (fsN_lt hg.1 hg.2 hk hy).2
    rw [e 0 (by omega), e 1 (by omega), e (4 + (nbT (g 0) (g 1) k y).toNat) (by omega)]
  · rw [q]
    unfold ownG
    rw [e (4 + (lkS g k y).toNat) (by omega)]
theorem VWs_cg {g g2 : Nat → Int} {vn vs vm vf : Nat → Int32} (h : VWs g vn vs vm vf) (e : ∀ j : Nat, j < 84 → g2 j = g j) (hg : gB g) : VWs g2 vn vs vm vf := by
  intro c w hc hw
  have z := h c w hc hw
  have q := lk_cg (k := (c : Int)) (y := (w : Int)) e hg (by omega) (by omega)
  rw [q.2.2.2, q.1, q.2.1, q.2.2.1]
  exact z
def VWn (g : Nat → Int) (vn vm vf : Nat → Int32) : Prop := ∀ c w : Nat, c < 80 → w < 8 → (vn (8 * c + w)).toInt = nxT g c w ∧ (vm (8 * c + w)).toInt = lkM g c w ∧ (vf (8 * c + w)).toInt = ownG g (lkS g c w)
theorem VWn_s {g : Nat → Int} {vn vs vm vf : Nat → Int32} (h : VWs g vn vs vm vf) : VWn g vn vm vf := fun c w hc hw => ⟨(h c w hc hw).1, (h c w hc hw).2.2.1, (h c w hc hw).2.2.2⟩
theorem VWn_at {g : Nat → Int} {vn vm vf : Nat → Int32} {v : Int32} {c w : Int} (h : VWn g vn vm vf) (hc : 0 ≤ c ∧ c < 80) (hw : 0 ≤ w ∧ w < 8) (hv : v.toInt = c * 8 + w) : (vn v.toNatClampNeg).toInt = nxT g c w ∧ (vm v.toNatClampNeg).toInt = lkM g c w ∧ (vf v.toNatClampNeg).toInt = ownG g (lkS g c w) := by
  have h3 : v.toNatClampNeg = v.toInt.toNat := rfl
  have z := h c.toNat w.toNat (by omega) (by omega)
  rw [show ((c.toNat : Nat) : Int) = c from by omega, show ((w.toNat : Nat) : Int) = w from by omega] at z
  rw [h3, show v.toInt.toNat = 8 * c.toNat + w.toNat from by omega]
  exact z
theorem VWs_at {g : Nat → Int} {vn vs vm vf : Nat → Int32} {v : Int32} {c w : Int} (h : VWs g vn vs vm vf) (hc : 0 ≤ c ∧ c < 80) (hw : 0 ≤ w ∧ w < 8) (hv : v.toInt = c * 8 + w) : (vs v.toNatClampNeg).toInt = lkS g c w ∧ (vm v.toNatClampNeg).toInt = lkM g c w := by
  have h3 : v.toNatClampNeg = v.toInt.toNat := rfl
  have z := h c.toNat w.toNat (by omega) (by omega)
  rw [show ((c.toNat : Nat) : Int) = c from by omega, show ((w.toNat : Nat) : Int) = w from by omega] at z
  rw [h3, show v.toInt.toNat = 8 * c.toNat + w.toNat from by omega]
  exact ⟨z.2.1, z.2.2.1⟩
-- a step: what is paid, and what is then
def w32 (v : Int) : Int := v.bmod (2 ^ 32)
theorem w32_add (a b : Int32) : (a + b).toInt = w32 (a.toInt + b.toInt) := Int32.toInt_add a b
def pyG (g : Nat → Int) (p o m : Int) : Int := if o = 6 then 0 else if g (98 + 4 * p.toNat) = 1 ∧ ¬ g (90 + o.toNat) = 0 then 0 else g (84 + o.toNat) * (1 + m)
def coG (g : Nat → Int) (p co : Int) : Int := if co < 8 then pyG g p (ownG g (lkS g (g (96 + 4 * p.toNat)) co)) (lkM g (g (96 + 4 * p.toNat)) co) else 0
def gpG (g : Nat → Int) (p o c : Int) : Nat → Int := if o = 6 then g else updI (updI g (120 + 6 * p + o) (w32 (g (120 + 6 * p + o).toNat + c))) (156 + 6 * p + o) (w32 (g (156 + 6 * p + o).toNat + 1))
def gaG (g : Nat → Int) (p co : Int) : Nat → Int := if co < 8 then gpG g p (ownG g (lkS g (g (96 + 4 * p.toNat)) co)) (coG g p co) else g
def gnG (g : Nat → Int) (p n : Int) : Nat → Int := if n = -1 then g else updI g (96 + 4 * p) n
def gsG (g : Nat → Int) (p : Int) : Nat → Int := updI g (99 + 4 * p) (w32 (g (99 + 4 * p).toNat + 1))
def stG (g : Nat → Int) (p co : Int) : Nat → Int := gsG (gnG (gaG g p co) p (nxT g (g (96 + 4 * p.toNat)) (co % 8))) p
theorem own_b {g : Nat → Int} {k : Int} (go : gOK g) (hk : k = -1 ∨ insK g k) : 0 ≤ ownG g k ∧ ownG g k ≤ 6 := by
  unfold ownG
  split
  · next q =>
    rcases hk with z | z
    · omega
    · have b := insK_80 ⟨go.1.2, go.2.1.2⟩ z
      have y := go.2.2.2 k.toNat (by omega) (by unfold insG; unfold insK at z; omega)
      omega
  · omega
theorem gpG_o {g : Nat → Int} {p o c : Int} {j : Nat} (ho : 0 ≤ o ∧ o ≤ 6) (hp : 0 ≤ p) (hj : j < 120) : gpG g p o c j = g j := by
  unfold gpG
  split
  · rfl
  · show (if (j : Int) = 156 + 6 * p + o then _ else if (j : Int) = 120 + 6 * p + o then _ else g j) = g j
    rw [if_neg (by omega), if_neg (by omega)]
theorem gaG_o {g : Nat → Int} {p co : Int} {j : Nat} (go : gOK g) (hp : 0 ≤ p) (hc : 0 ≤ co) (hj : j < 120) : gaG g p co j = g j := by
  unfold gaG
  split
  · next q => exact gpG_o (own_b go (lk_in ⟨go.1.2, go.2.1.2⟩ ⟨hc, q⟩)) hp hj
  · rfl
theorem stG_s {g : Nat → Int} {p co : Int} {j : Nat} (go : gOK g) (hp : 0 ≤ p ∧ p < 6) (hc : 0 ≤ co) (hj : stI j) : stG g p co j = g j := by
  unfold stI at hj
  have e : stG g p co j = gnG (gaG g p co) p (nxT g (g (96 + 4 * p.toNat)) (co % 8)) j := if_neg (by omega)
  rw [e]
  unfold gnG
  split
  · exact gaG_o go hp.1 hc (by omega)
  · show (if (j : Int) = 96 + 4 * p then _ else gaG g p co j) = g j
    rw [if_neg (by omega)]
    exact gaG_o go hp.1 hc (by omega)
theorem CXd_pay {g : Nat → Int} {fl fg fd fb fd1 fb1 : Nat → Int32} {p o : Int} {c i j : Int32} (h : CXd g fl fg fd fb) (hp : 0 ≤ p ∧ p < g 3) (h6 : g 3 ≤ 6) (ho : 0 ≤ o ∧ o ≤ 5) (hi : i.toInt = 6 * p + o) (hj : j.toInt = 6 * p + o) (e1 : fd1 = upd fd i.toNatClampNeg (fd i.toNatClampNeg + c)) (e2 : fb1 = upd fb j.toNatClampNeg (fb j.toNatClampNeg + 1)) : CXd (gpG g p o c.toInt) fl fg fd1 fb1 := by
  have h3 : i.toNatClampNeg = i.toInt.toNat := rfl
  have h4 : j.toNatClampNeg = j.toInt.toNat := rfl
  have z := (h p.toNat (by omega)).2.2 o.toNat (by omega)
  have g3 : gpG g p o c.toInt = updI (updI g (120 + 6 * p + o) (w32 (g (120 + 6 * p + o).toNat + c.toInt))) (156 + 6 * p + o) (w32 (g (156 + 6 * p + o).toNat + 1)) := if_neg (by omega)
  rw [g3]
  have key : ∀ k : Nat, updI (updI g (120 + 6 * p + o) (w32 (g (120 + 6 * p + o).toNat + c.toInt))) (156 + 6 * p + o) (w32 (g (156 + 6 * p + o).toNat + 1)) k = if (k : Int) = 156 + 6 * p + o then w32 (g (156 + 6 * p + o).toNat + 1) else if (k : Int) = 120 + 6 * p + o then w32 (g (120 + 6 * p + o).toNat + c.toInt) else g k := fun _ => rfl
  intro q hq
  rw [key 3, if_neg (by omega), if_neg (by omega)] at hq
  have y := h q hq
  refine ⟨?_, ?_, fun k hk => ⟨?_, ?_⟩⟩
  · rw [key, if_neg (by omega), if_neg (by omega)]
    exact y.1
  · rw [key, if_neg (by omega), if_neg (by omega)]
    exact y.2.1
  · rw [e1, key, if_neg (by omega)]
    show (if 6 * q + k = i.toNatClampNeg then fd i.toNatClampNeg + c else fd (6 * q + k)).toInt = _
    by_cases w : 6 * q + k = i.toNatClampNeg
    · rw [if_pos w, if_pos (by omega), w32_add, show i.toNatClampNeg = 6 * p.toNat + o.toNat from by omega, z.1, show (120 + 6 * p + o).toNat = 120 + 6 * p.toNat + o.toNat from by omega]
    · rw [if_neg w, if_neg (by omega)]
      exact (y.2.2 k hk).1
  · rw [e2, key]
    show (if 6 * q + k = j.toNatClampNeg then fb j.toNatClampNeg + 1 else fb (6 * q + k)).toInt = _
    by_cases w : 6 * q + k = j.toNatClampNeg
    · rw [if_pos w, if_pos (by omega), w32_add, show Int32.toInt 1 = 1 from rfl, show j.toNatClampNeg = 6 * p.toNat + o.toNat from by omega, z.2, show (156 + 6 * p + o).toNat = 156 + 6 * p.toNat + o.toNat from by omega]
    · rw [if_neg w, if_neg (by omega), if_neg (by omega)]
      exact (y.2.2 k hk).2
theorem CXd_n {g : Nat → Int} {fl fg fd fb fl1 : Nat → Int32} {p n : Int} {i v : Int32} (h : CXd g fl fg fd fb) (hp : 0 ≤ p ∧ p < g 3) (h6 : g 3 ≤ 6) (e : upd fl i.toNatClampNeg v = fl1) (hi : i.toInt = p) (hv : v.toInt = n) (hn : ¬ n = -1) : CXd (gnG g p n) fl1 fg fd fb := by
  have h3 : i.toNatClampNeg = i.toInt.toNat := rfl
  have key : ∀ k : Nat, gnG g p n k = if (k : Int) = 96 + 4 * p then n else g k := fun k => by unfold gnG; rw [if_neg hn]; rfl
  intro q hq
  rw [key 3, if_neg (by omega)] at hq
  have y := h q hq
  refine ⟨?_, ?_, fun k hk => ⟨?_, ?_⟩⟩
  · rw [← e, key]
    show (if q = i.toNatClampNeg then v else fl q).toInt = _
    by_cases w : q = i.toNatClampNeg
    · rw [if_pos w, if_pos (by omega)]
      exact hv
    · rw [if_neg w, if_neg (by omega)]
      exact y.1
  · rw [key, if_neg (by omega)]
    exact y.2.1
  · rw [key, if_neg (by omega)]
    exact (y.2.2 k hk).1
  · rw [key, if_neg (by omega)]
    exact (y.2.2 k hk).2
theorem CXd_n0 {g : Nat → Int} {fl fg fd fb : Nat → Int32} {p n : Int} (h : CXd g fl fg fd fb) (hn : n = -1) : CXd (gnG g p n) fl fg fd fb := by
  unfold gnG
  rw [if_pos hn]
  exact h
theorem CXd_s {g : Nat → Int} {fl fg fd fb fg1 : Nat → Int32} {p : Int} {i v x : Int32} (h : CXd g fl fg fd fb) (hp : 0 ≤ p ∧ p < g 3) (h6 : g 3 ≤ 6) (e : upd fg i.toNatClampNeg v = fg1) (hv : v = x + 1) (hx : x = fg i.toNatClampNeg) (hi : i.toInt = p) : CXd (gsG g p) fl fg1 fd fb := by
  have h3 : i.toNatClampNeg = i.toInt.toNat := rfl
  have key : ∀ k : Nat, gsG g p k = if (k : Int) = 99 + 4 * p then w32 (g (99 + 4 * p).toNat + 1) else g k := fun _ => rfl
  have z := (h p.toNat (by omega)).2.1
  intro q hq
  rw [key 3, if_neg (by omega)] at hq
  have y := h q hq
  refine ⟨?_, ?_, fun k hk => ⟨?_, ?_⟩⟩
  · rw [key, if_neg (by omega)]
    exact y.1
  · rw [← e, key]
    show (if q = i.toNatClampNeg then v else fg q).toInt = _
    by_cases w : q = i.toNatClampNeg
    · rw [if_pos w, if_pos (by omega), hv, w32_add, show Int32.toInt 1 = 1 from rfl, hx, show i.toNatClampNeg = p.toNat from by omega, z, show (99 + 4 * p).toNat = 99 + 4 * p.toNat from by omega]
    · rw [if_neg w, if_neg (by omega)]
      exact y.2.1
  · rw [key, if_neg (by omega)]
    exact (y.2.2 k hk).1
  · rw [key, if_neg (by omega)]
    exact (y.2.2 k hk).2
theorem ad_mk {f f2 : Nat → Int32} {i x y c : Int32} {K : Int} (e : upd f i.toNatClampNeg y = f2) (ey : y = x + c) (ex : x = f i.toNatClampNeg) (hi : i.toInt = K) : ∃ i : Int32, i.toInt = K ∧ f2 = upd f i.toNatClampNeg (f i.toNatClampNeg + c) := ⟨i, hi, by rw [← e, ey, ex]⟩
def CXq (g : Nat → Int) (fp ff fm : Nat → Int32) : Prop := (∀ j : Nat, j < 6 → (fp j).toInt = g (84 + j)) ∧ (∀ j : Nat, j < 6 → (ff j).toInt = g (90 + j)) ∧ ∀ p : Nat, (p : Int) < g 3 → (fm p).toInt = g (98 + 4 * p)
theorem CXq_s {g : Nat → Int} {cw ch cp : Int32} {fc fp ff fh fm : Nat → Int32} (h : CXs g cw ch cp fc fp ff fh fm) : CXq g fp ff fm := ⟨h.2.2.2.2.1, h.2.2.2.2.2.1, h.2.2.2.2.2.2.2⟩
theorem pay_N {g : Nat → Int} {fl fg fd fb : Nat → Int32} {p co : Int} {r : Int32} (h : CXd g fl fg fd fb) (hc : ¬ co < 8) (hr : r.toInt = 0) : r.toInt = coG g p co ∧ CXd (gaG g p co) fl fg fd fb := by
  unfold coG gaG
  rw [if_neg hc, if_neg hc]
  exact ⟨hr, h⟩
theorem pay_A {g : Nat → Int} {fl fg fd fb vn vm vf : Nat → Int32} {p co : Int} {r v : Int32} (h : CXd g fl fg fd fb) (hv : VWn g vn vm vf) (hh : 0 ≤ g (96 + 4 * p.toNat) ∧ g (96 + 4 * p.toNat) < 80) (hc : 0 ≤ co ∧ co < 8) (hw : v.toInt = g (96 + 4 * p.toNat) * 8 + co) (ho : (vf v.toNatClampNeg).toInt = 6) (hr : r.toInt = 0) : r.toInt = coG g p co ∧ CXd (gaG g p co) fl fg fd fb := by
  have z := (VWn_at hv hh hc hw).2.2
  rw [ho] at z
  unfold coG gaG pyG gpG
  rw [if_pos hc.2, if_pos hc.2, if_pos z.symm, if_pos z.symm]
  exact ⟨hr, h⟩
theorem pay_B {g : Nat → Int} {fl fg fd fb fd1 fb1 fp ff fm vn vm vf : Nat → Int32} {p co O : Int} {r v a : Int32} (hO : O = (vf v.toNatClampNeg).toInt) (h : CXd g fl fg fd fb) (hq : CXq g fp ff fm) (hv : VWn g vn vm vf) (hh : 0 ≤ g (96 + 4 * p.toNat) ∧ g (96 + 4 * p.toNat) < 80) (hc : 0 ≤ co ∧ co < 8) (hw : v.toInt = g (96 + 4 * p.toNat) * 8 + co) (hp : 0 ≤ p ∧ p < g 3) (h6 : g 3 ≤ 6) (ha : a.toInt = p) (ho : 0 ≤ O ∧ O ≤ 5) (hr : (¬ ((fm a.toNatClampNeg).toInt = 1 ∧ ¬ (ff O.toNat).toInt = 0) ∧ r.toInt = (fp O.toNat).toInt * (1 + (vm v.toNatClampNeg).toInt)) ∨ (((fm a.toNatClampNeg).toInt = 1 ∧ ¬ (ff O.toNat).toInt = 0) ∧ r.toInt = 0)) (h1 : ∃ i : Int32, i.toInt = 6 * a.toInt + O ∧ fd1 = upd fd i.toNatClampNeg (fd i.toNatClampNeg + r)) (h2 : ∃ i : Int32, i.toInt = 6 * a.toInt + O ∧ fb1 = upd fb i.toNatClampNeg (fb i.toNatClampNeg + 1)) : r.toInt = coG g p co ∧ CXd (gaG g p co) fl fg fd1 fb1 := by
  have h3 : a.toNatClampNeg = a.toInt.toNat := rfl
  have z := VWn_at hv hh hc hw
  rw [← hO] at z
  have e : r.toInt = coG g p co := by
    unfold coG pyG
    rw [if_pos hc.2, ← z.2.2, if_neg (by omega)]
    rw [h3, ha, hq.2.2 p.toNat (by omega), hq.2.1 O.toNat (by omega), hq.1 O.toNat (by omega), z.2.1] at hr
    rcases hr with ⟨k1, k2⟩ | ⟨k1, k2⟩
    · rw [if_neg k1]; exact k2
    · rw [if_pos k1]; exact k2
  refine ⟨e, ?_⟩
  unfold gaG
  rw [if_pos hc.2, ← z.2.2, ← e]
  obtain ⟨i, i1, i2⟩ := h1
  obtain ⟨j, j1, j2⟩ := h2
  exact CXd_pay h hp h6 ho (by omega) (by omega) i2 j2
theorem mulP {x a b : Int32} (e : x = a * b) (ha : 0 ≤ a.toInt ∧ a.toInt ≤ 99) (hb : 1 ≤ b.toInt ∧ b.toInt ≤ 3) : x.toInt = a.toInt * b.toInt := by
  have h1 : 0 ≤ a.toInt * b.toInt := Int.mul_nonneg ha.1 (by omega)
  have h2 : a.toInt * b.toInt ≤ 99 * 3 := Int.mul_le_mul ha.2 hb.2 (by omega) (by omega)
  exact mulI (A := a.toInt) (B := b.toInt) e rfl rfl (by omega) (by omega)
def gPr (g : Nat → Int) : Prop := ∀ j : Nat, j < 6 → 0 ≤ g (84 + j) ∧ g (84 + j) ≤ 99
def gHm (g : Nat → Int) : Prop := ∀ p : Nat, (p : Int) < g 3 → 0 ≤ g (96 + 4 * p) ∧ g (96 + 4 * p) < 80
-- may he go
def mgG (g : Nat → Int) (p co : Int) : Prop := (g (98 + 4 * p.toNat) = 2 ∧ 0 ≤ co ∧ co < 16) ∨ (¬ g (98 + 4 * p.toNat) = 2 ∧ 0 ≤ co ∧ co < 8)
def onG (g : Nat → Int) (p : Int) : Prop := 0 ≤ p ∧ p < g 3
def stStep (g : Nat → Int) (a co r : Int32) (g2 : Nat → Int) : Prop := (¬ (onG g a.toInt ∧ mgG g a.toInt co.toInt) ∧ r = -1000001 ∧ g2 = g) ∨ ((onG g a.toInt ∧ mgG g a.toInt co.toInt) ∧ r.toInt = coG g a.toInt co.toInt ∧ g2 = stG g a.toInt co.toInt)
theorem stStep_eq {g g2 g3 : Nat → Int} {a co r q : Int32} (h : stStep g a co r g2) (k : stStep g a co q g3) : r = q ∧ g2 = g3 := by
  rcases h with ⟨h1, h2, h3⟩ | ⟨h1, h2, h3⟩ <;> rcases k with ⟨k1, k2, k3⟩ | ⟨k1, k2, k3⟩
  · exact ⟨h2.trans k2.symm, h3.trans k3.symm⟩
  · exact absurd k1 h1
  · exact absurd h1 k1
  · exact ⟨Int32.toInt_inj.mp (h2.trans k2.symm), h3.trans k3.symm⟩
theorem gnG_3 {g : Nat → Int} {p n : Int} (hp : 0 ≤ p) : gnG g p n 3 = g 3 := by
  unfold gnG
  split
  · rfl
  · exact if_neg (by omega)
def VWk (g : Nat → Int) (vs vm : Nat → Int32) : Prop := ∀ c w : Nat, c < 80 → w < 8 → (vs (8 * c + w)).toInt = lkS g c w ∧ (vm (8 * c + w)).toInt = lkM g c w
theorem VWk_s {g : Nat → Int} {vn vs vm vf : Nat → Int32} (h : VWs g vn vs vm vf) : VWk g vs vm := fun c w hc hw => ⟨(h c w hc hw).2.1, (h c w hc hw).2.2.1⟩
theorem VWk_at {g : Nat → Int} {vs vm : Nat → Int32} {v : Int32} {c w : Int} (h : VWk g vs vm) (hc : 0 ≤ c ∧ c < 80) (hw : 0 ≤ w ∧ w < 8) (hv : v.toInt = c * 8 + w) : (vs v.toNatClampNeg).toInt = lkS g c w ∧ (vm v.toNatClampNeg).toInt = lkM g c w := by
  have h3 : v.toNatClampNeg = v.toInt.toNat := rfl
  have z := h c.toNat w.toNat (by omega) (by omega)
  rw [show ((c.toNat : Nat) : Int) = c from by omega, show ((w.toNat : Nat) : Int) = w from by omega] at z
  rw [h3, show v.toInt.toNat = 8 * c.toNat + w.toNat from by omega]
  exact z
-- a look
def prG (g : Nat → Int) (o m : Int) : Int := if o = 6 then 0 else g (84 + o.toNat) * (1 + m)
def opK (g : Nat → Int) (k : Int) : Prop := insK g k ∧ g (4 + k.toNat) = -3
def stLook (g : Nat → Int) (k wy wa r : Int32) : Prop := (¬ (opK g k.toInt ∧ (0 ≤ wy.toInt ∧ wy.toInt < 8) ∧ 0 ≤ wa.toInt ∧ wa.toInt ≤ 2) ∧ r = -1000001) ∨ ((opK g k.toInt ∧ (0 ≤ wy.toInt ∧ wy.toInt < 8)) ∧ ((wa.toInt = 0 ∧ ((lkS g k.toInt wy.toInt = -1 ∧ r = -1000000) ∨ (¬ lkS g k.toInt wy.toInt = -1 ∧ r.toInt = lkS g k.toInt wy.toInt))) ∨ (wa.toInt = 1 ∧ r.toInt = prG g (ownG g (lkS g k.toInt wy.toInt)) (lkM g k.toInt wy.toInt)) ∨ (wa.toInt = 2 ∧ r.toInt = lkM g k.toInt wy.toInt)))
theorem stLook_eq {g : Nat → Int} {k wy wa r q : Int32} (h : stLook g k wy wa r) (z : stLook g k wy wa q) : r = q := by
  rcases h with ⟨h1, h2⟩ | ⟨h1, h2⟩ <;> rcases z with ⟨k1, k2⟩ | ⟨k1, k2⟩
  · exact h2.trans k2.symm
  · exact absurd ⟨k1.1, k1.2, by omega, by omega⟩ h1
  · exact absurd ⟨h1.1, h1.2, by omega, by omega⟩ k1
  · rcases h2 with ⟨h3, h4⟩ | ⟨h3, h4⟩ | ⟨h3, h4⟩ <;> rcases k2 with ⟨k3, k4⟩ | ⟨k3, k4⟩ | ⟨k3, k4⟩ <;> first | (exfalso; omega) | exact Int32.toInt_inj.mp (h4.trans k4.symm) | skip
    rcases h4 with ⟨h5, h6⟩ | ⟨h5, h6⟩ <;> rcases k4 with ⟨k5, k6⟩ | ⟨k5, k6⟩
    · exact h6.trans k6.symm
    · exact absurd h5 k5
    · exact absurd k5 h5
    · exact Int32.toInt_inj.mp (h6.trans k6.symm)
theorem opX {g : Nat → Int} {cw ch k : Int} {fc : Nat → Int32} (h : GC g cw ch fc) (hg : gB g) : (0 ≤ k ∧ k % 10 < cw ∧ k / 10 < ch ∧ (fc k.toNat).toInt = 0) ↔ opK g k := by
  constructor
  · intro z
    have e := GC_at h hg ⟨z.1, z.2.1, z.2.2.1⟩
    exact ⟨(GC_K h).mp ⟨z.1, z.2.1, z.2.2.1⟩, by omega⟩
  · intro z
    have q := (GC_K h).mpr z.1
    have e := GC_at h hg q
    have y := z.2
    exact ⟨q.1, q.2.1, q.2.2, by omega⟩
theorem lkX_b {g : Nat → Int} {cw ch : Int} {k wy wa r : Int32} {fc : Nat → Int32} (h : GC g cw ch fc) (hg : gB g) (hr : r = -1000001) (hn : ¬ (0 ≤ k.toInt ∧ k.toInt % 10 < cw ∧ k.toInt / 10 < ch ∧ (fc k.toInt.toNat).toInt = 0) ∨ (wy.toInt < 0 ∨ 8 ≤ wy.toInt) ∨ (wa.toInt < 0 ∨ 2 < wa.toInt)) : stLook g k wy wa r := by
  refine Or.inl ⟨fun z => ?_, hr⟩
  rcases hn with q | q | q
  · exact q ((opX h hg).mpr z.1)
  · have y := z.2.1; omega
  · have y := z.2.2; omega
theorem prX {g : Nat → Int} {cw ch k m : Int} {fc fp : Nat → Int32} {r t x : Int32} (h : GC g cw ch fc) (hg : gB g) (go : gOK g) (hp : gPr g) (hf : ∀ j : Nat, j < 6 → (fp j).toInt = g (84 + j)) (hk : k = -1 ∨ insK g k) (hr : (0 ≤ k ∧ k % 10 < cw ∧ k / 10 < ch ∧ 3 ≤ (fc k.toNat).toInt ∧ r.toInt = (fp ((fc k.toNat).toInt - 3).toNat).toInt) ∨ (¬ (0 ≤ k ∧ k % 10 < cw ∧ k / 10 < ch ∧ 3 ≤ (fc k.toNat).toInt) ∧ r.toInt = 0)) (ht : t.toInt = 1 + m) (hm : 0 ≤ m ∧ m ≤ 2) (e : x = r * t) : x.toInt = prG g (ownG g k) m := by
  unfold prG
  rcases hr with ⟨a1, a2, a3, a4, a5⟩ | ⟨a, b⟩
  · have q := GC_at h hg ⟨a1, a2, a3⟩
    have y := go.2.2.2 k.toNat (by omega) (by have w := (GC_K h).mp ⟨a1, a2, a3⟩; unfold insK at w; unfold insG; omega)
    have o : ownG g k = g (4 + k.toNat) := if_pos (by omega)
    rw [o, if_neg (by omega)]
    rw [show ((fc k.toNat).toInt - 3).toNat = (g (4 + k.toNat)).toNat from by omega, hf _ (by omega)] at a5
    have b := hp (g (4 + k.toNat)).toNat (by omega)
    rw [← a5, ← ht]
    exact mulP e (by omega) (by omega)
  · have o : ownG g k = 6 := by
      unfold ownG
      rw [if_neg ?_]
      intro z
      rcases hk with q | q
      · omega
      · have q2 := (GC_K h).mpr q
        have y := GC_at h hg q2
        exact a ⟨q2.1, q2.2.1, q2.2.2, by omega⟩
    rw [o, if_pos rfl]
    have w := mulP e (by omega) (by omega)
    rw [w, b]
    omega
-- the model's city as it goes
theorem CYd_pay {g : Nat → Int} {cy cy1 cy2 : Nat → Int32} {p o : Int} {c i j x y x2 y2 : Int32} (h : CYd g cy) (hp : 0 ≤ p ∧ p < g 3) (h6 : g 3 ≤ 6) (ho : 0 ≤ o ∧ o ≤ 5) (e1 : upd cy i.toNatClampNeg y = cy1) (ey : y = x + c) (ex : x = cy i.toNatClampNeg) (e2 : upd cy1 j.toNatClampNeg y2 = cy2) (ey2 : y2 = x2 + 1) (ex2 : x2 = cy1 j.toNatClampNeg) (hi : i.toInt = 120 + 6 * p + o) (hj : j.toInt = 156 + 6 * p + o) : CYd (gpG g p o c.toInt) cy2 := by
  have h3 : i.toNatClampNeg = i.toInt.toNat := rfl
  have h4 : j.toNatClampNeg = j.toInt.toNat := rfl
  have z := (h p.toNat (by omega)).2.2 o.toNat (by omega)
  have g3 : gpG g p o c.toInt = updI (updI g (120 + 6 * p + o) (w32 (g (120 + 6 * p + o).toNat + c.toInt))) (156 + 6 * p + o) (w32 (g (156 + 6 * p + o).toNat + 1)) := if_neg (by omega)
  rw [g3]
  have key : ∀ k : Nat, updI (updI g (120 + 6 * p + o) (w32 (g (120 + 6 * p + o).toNat + c.toInt))) (156 + 6 * p + o) (w32 (g (156 + 6 * p + o).toNat + 1)) k = if (k : Int) = 156 + 6 * p + o then w32 (g (156 + 6 * p + o).toNat + 1) else if (k : Int) = 120 + 6 * p + o then w32 (g (120 + 6 * p + o).toNat + c.toInt) else g k := fun _ => rfl
  have x2e : x2 = cy j.toNatClampNeg := by
    rw [ex2, ← e1]
    exact if_neg (by omega)
  have kc : ∀ k : Nat, cy2 k = if k = j.toNatClampNeg then y2 else if k = i.toNatClampNeg then y else cy k := fun k => by rw [← e2, ← e1]; rfl
  intro q hq
  rw [key 3, if_neg (by omega), if_neg (by omega)] at hq
  have yy := h q hq
  refine ⟨?_, ?_, fun k hk => ⟨?_, ?_⟩⟩
  · rw [key, if_neg (by omega), if_neg (by omega), kc, if_neg (by omega), if_neg (by omega)]
    exact yy.1
  · rw [key, if_neg (by omega), if_neg (by omega), kc, if_neg (by omega), if_neg (by omega)]
    exact yy.2.1
  · rw [key, if_neg (by omega), kc, if_neg (by omega)]
    by_cases w : 120 + 6 * q + k = i.toNatClampNeg
    · rw [if_pos w, if_pos (by omega), ey, w32_add, ex, show i.toNatClampNeg = 120 + 6 * p.toNat + o.toNat from by omega, z.1, show (120 + 6 * p + o).toNat = 120 + 6 * p.toNat + o.toNat from by omega]
    · rw [if_neg w, if_neg (by omega)]
      exact (yy.2.2 k hk).1
  · rw [key, kc]
    by_cases w : 156 + 6 * q + k = j.toNatClampNeg
    · rw [if_pos w, if_pos (by omega), ey2, w32_add, show Int32.toInt 1 = 1 from rfl, x2e, show j.toNatClampNeg = 156 + 6 * p.toNat + o.toNat from by omega, z.2, show (156 + 6 * p + o).toNat = 156 + 6 * p.toNat + o.toNat from by omega]
    · rw [if_neg w, if_neg (by omega), if_neg (by omega), if_neg (by omega)]
      exact (yy.2.2 k hk).2
theorem CYd_n {g : Nat → Int} {cy cy1 : Nat → Int32} {p n : Int} {i v : Int32} (h : CYd g cy) (hp : 0 ≤ p ∧ p < g 3) (h6 : g 3 ≤ 6) (e : upd cy i.toNatClampNeg v = cy1) (hi : i.toInt = 96 + 4 * p) (hv : v.toInt = n) (hn : ¬ n = -1) : CYd (gnG g p n) cy1 := by
  have h3 : i.toNatClampNeg = i.toInt.toNat := rfl
  have key : ∀ k : Nat, gnG g p n k = if (k : Int) = 96 + 4 * p then n else g k := fun k => by unfold gnG; rw [if_neg hn]; rfl
  have kc : ∀ k : Nat, cy1 k = if k = i.toNatClampNeg then v else cy k := fun k => by rw [← e]; rfl
  intro q hq
  rw [key 3, if_neg (by omega)] at hq
  have y := h q hq
  refine ⟨?_, ?_, fun k hk => ⟨?_, ?_⟩⟩
  · rw [kc, key]
    by_cases w : 96 + 4 * q = i.toNatClampNeg
    · rw [if_pos w, if_pos (by omega)]
      exact hv
    · rw [if_neg w, if_neg (by omega)]
      exact y.1
  · rw [key, if_neg (by omega), kc, if_neg (by omega)]
    exact y.2.1
  · rw [key, if_neg (by omega), kc, if_neg (by omega)]
    exact (y.2.2 k hk).1
  · rw [key, if_neg (by omega), kc, if_neg (by omega)]
    exact (y.2.2 k hk).2
theorem CYd_n0 {g : Nat → Int} {cy : Nat → Int32} {p n : Int} (h : CYd g cy) (hn : n = -1) : CYd (gnG g p n) cy := by
  unfold gnG
  rw [if_pos hn]
  exact h
theorem CYd_s {g : Nat → Int} {cy cy1 : Nat → Int32} {p : Int} {i v x : Int32} (h : CYd g cy) (hp : 0 ≤ p ∧ p < g 3) (h6 : g 3 ≤ 6) (e : upd cy i.toNatClampNeg v = cy1) (hv : v = x + 1) (hx : x = cy i.toNatClampNeg) (hi : i.toInt = 99 + 4 * p) : CYd (gsG g p) cy1 := by
  have h3 : i.toNatClampNeg = i.toInt.toNat := rfl
  have key : ∀ k : Nat, gsG g p k = if (k : Int) = 99 + 4 * p then w32 (g (99 + 4 * p).toNat + 1) else g k := fun _ => rfl
  have kc : ∀ k : Nat, cy1 k = if k = i.toNatClampNeg then v else cy k := fun k => by rw [← e]; rfl
  have z := (h p.toNat (by omega)).2.1
  intro q hq
  rw [key 3, if_neg (by omega)] at hq
  have y := h q hq
  refine ⟨?_, ?_, fun k hk => ⟨?_, ?_⟩⟩
  · rw [key, if_neg (by omega), kc, if_neg (by omega)]
    exact y.1
  · rw [key, kc]
    by_cases w : 99 + 4 * q = i.toNatClampNeg
    · rw [if_pos w, if_pos (by omega), hv, w32_add, show Int32.toInt 1 = 1 from rfl, hx, show i.toNatClampNeg = 99 + 4 * p.toNat from by omega, z, show (99 + 4 * p).toNat = 99 + 4 * p.toNat from by omega]
    · rw [if_neg w, if_neg (by omega)]
      exact y.2.1
  · rw [key, if_neg (by omega), kc, if_neg (by omega)]
    exact (y.2.2 k hk).1
  · rw [key, if_neg (by omega), kc, if_neg (by omega)]
    exact (y.2.2 k hk).2
-- rows of steps
def wkG (it : Nat → Int32) (p : Int) (g : Nat → Int) : Nat → Int32 × (Nat → Int)
  | 0 => (0, g)
  | k + 1 => ((wkG it p g k).1 + Int32.ofInt (coG (wkG it p g k).2 p (it k).toInt), stG (wkG it p g k).2 p (it k).toInt)
theorem ofI {x : Int32} {v : Int} (h : x.toInt = v) : Int32.ofInt v = x := by rw [← h]; exact Int32.ofInt_toInt x
theorem wk_st {it : Nat → Int32} {p : Int} {g : Nat → Int} {k : Nat} {q q2 x : Int32} {v : Int32} (h : q = (wkG it p g k).1) (hx : x.toInt = coG (wkG it p g k).2 p v.toInt) (e : q2 = q + x) (hv : v = it k) : q2 = (wkG it p g (k + 1)).1 := by
  show q2 = (wkG it p g k).1 + Int32.ofInt (coG (wkG it p g k).2 p (it k).toInt)
  rw [← hv, ofI hx, ← h]
  exact e
theorem gOK_cg {g g2 : Nat → Int} (h : gOK g) (e : ∀ j : Nat, stI j → g2 j = g j) : gOK g2 := by
  have e0 := e 0 (by unfold stI; omega)
  have e1 := e 1 (by unfold stI; omega)
  have e3 := e 3 (by unfold stI; omega)
  refine ⟨by rw [e0]; exact h.1, by rw [e1]; exact h.2.1, by rw [e3]; exact h.2.2.1, fun c hc hi => ?_⟩
  unfold insG at hi
  rw [e0, e1] at hi
  rw [e (4 + c) (by unfold stI; omega)]
  exact h.2.2.2 c hc hi
theorem wk_s {it : Nat → Int32} {p : Int} {g : Nat → Int} (go : gOK g) (hp : 0 ≤ p ∧ p < 6) : ∀ k : Nat, (∀ j : Nat, j < k → 0 ≤ (it j).toInt) → ∀ j : Nat, stI j → (wkG it p g k).2 j = g j := by
  intro k
  induction k with
  | zero => intro _ j _; rfl
  | succ k ih =>
    intro h j hj
    have z := ih (fun j hj => h j (by omega))
    show stG (wkG it p g k).2 p (it k).toInt j = g j
    rw [stG_s (gOK_cg go z) hp (h k (by omega)) hj]
    exact z j hj
-- sums
def smO (f : Nat → Int) : Nat → Int32
  | 0 => 0
  | n + 1 => smO f n + Int32.ofInt (f n)
theorem smO_st {f : Nat → Int} {q q2 x : Int32} {i i2 : Int} (h : q = smO f i.toNat) (hx : x.toInt = f i.toNat) (e : q2 = q + x) (h0 : 0 ≤ i) (h2 : i2 = i + 1) : q2 = smO f i2.toNat := by
  rw [show i2.toNat = i.toNat + 1 from by omega]
  show q2 = smO f i.toNat + Int32.ofInt (f i.toNat)
  rw [ofI hx, ← h]
  exact e
theorem smO_cg {f g : Nat → Int} : ∀ n : Nat, (∀ k : Nat, k < n → f k = g k) → smO f n = smO g n := by
  intro n
  induction n with
  | zero => intro _; rfl
  | succ n ih =>
    intro h
    show smO f n + Int32.ofInt (f n) = smO g n + Int32.ofInt (g n)
    rw [ih (fun k hk => h k (by omega)), h n (by omega)]
theorem smO_i {f : Nat → Int} {q : Int32} {i n : Int} (h : q = smO f i.toNat) (h1 : n ≤ i) (h2 : i ≤ n) : q = smO f n.toNat := by rw [h, show i = n from by omega]
def wtO (f : Nat → Int) : Nat → Int32
  | 0 => 0
  | n + 1 => if f n = 0 then wtO f n ||| ((1 : Int32) <<< (Int32.ofInt (n : Int) &&& 31)) else wtO f n
theorem wtO_y {f : Nat → Int} {q q2 x i : Int32} {i2 : Int} (h : q = wtO f i.toInt.toNat) (hx : f i.toInt.toNat = 0) (ex : x = (1 : Int32) <<< (i &&& 31)) (e : q2 = q ||| x) (h0 : 0 ≤ i.toInt) (h2 : i2 = i.toInt + 1) : q2 = wtO f i2.toNat := by
  rw [show i2.toNat = i.toInt.toNat + 1 from by omega]
  show q2 = if f i.toInt.toNat = 0 then wtO f i.toInt.toNat ||| ((1 : Int32) <<< (Int32.ofInt ((i.toInt.toNat : Nat) : Int) &&& 31)) else wtO f i.toInt.toNat
  rw [if_pos hx, show ((i.toInt.toNat : Nat) : Int) = i.toInt from by omega, Int32.ofInt_toInt, ← ex, ← h]
  exact e
theorem wtO_n {f : Nat → Int} {q i : Int32} {i2 : Int} (h : q = wtO f i.toInt.toNat) (hx : ¬ f i.toInt.toNat = 0) (h0 : 0 ≤ i.toInt) (h2 : i2 = i.toInt + 1) : q = wtO f i2.toNat := by
  rw [show i2.toNat = i.toInt.toNat + 1 from by omega]
  show q = if f i.toInt.toNat = 0 then wtO f i.toInt.toNat ||| ((1 : Int32) <<< (Int32.ofInt ((i.toInt.toNat : Nat) : Int) &&& 31)) else wtO f i.toInt.toNat
  rw [if_neg hx]
  exact h
theorem or_z {q q2 : Int32} (e : q2 = q ||| 0) : q2 = q := by rw [e]; exact Int32.or_zero
theorem wtO_cg {f g : Nat → Int} : ∀ n : Nat, (∀ k : Nat, k < n → f k = g k) → wtO f n = wtO g n := by
  intro n
  induction n with
  | zero => intro _; rfl
  | succ n ih =>
    intro h
    show (if f n = 0 then wtO f n ||| ((1 : Int32) <<< (Int32.ofInt (n : Int) &&& 31)) else wtO f n) = (if g n = 0 then wtO g n ||| ((1 : Int32) <<< (Int32.ofInt (n : Int) &&& 31)) else wtO g n)
    rw [ih (fun k hk => h k (by omega)), h n (by omega)]
theorem wtO_i {f : Nat → Int} {q : Int32} {i n : Int} (h : q = wtO f i.toNat) (h1 : n ≤ i) (h2 : i ≤ n) : q = wtO f n.toNat := by rw [h, show i = n from by omega]
-- items of the sheets
def zbI (im : Nat → Int32) (a : Nat) : Nat → Int32 := fun k => if k / 40 = a then 0 else im k
def ubI (im : Nat → Int32) (a i : Nat) (v : Int32) : Nat → Int32 := fun k => if k = 40 * a + i then v else im k
def cpI (im : Nat → Int32) (a i b j n : Nat) : Nat → Int32 := fun k => if 40 * b + j ≤ k ∧ k < 40 * b + j + n then im (40 * a + i + (k - (40 * b + j))) else im k
def itR (im f : Nat → Int32) (r : Nat) : Prop := ∀ k : Nat, k < 40 → f k = im (40 * r + k)
theorem zb_on {im f : Nat → Int32} {a : Nat} (hz : zr f 40) : itR (zbI im a) f a := by
  intro k hk
  rw [hz k (by omega)]
  exact (if_pos (by omega)).symm
theorem zb_off {im f : Nat → Int32} {a r : Nat} (h : itR im f r) (hn : ¬ r = a) : itR (zbI im a) f r := by
  intro k hk
  rw [h k hk]
  exact (if_neg (by omega)).symm
theorem ub_on {im f f2 : Nat → Int32} {a i : Nat} {v : Int32} (h : itR im f a) (e : f2 = upd f i v) : itR (ubI im a i v) f2 a := by
  intro k hk
  rw [e]
  show (if k = i then v else f k) = (if 40 * a + k = 40 * a + i then v else im (40 * a + k))
  by_cases q : k = i
  · rw [if_pos q, if_pos (by omega)]
  · rw [if_neg q, if_neg (by omega)]
    exact h k hk
theorem ub_off {im f : Nat → Int32} {a r i : Nat} {v : Int32} (h : itR im f r) (hn : ¬ r = a) (hi : i < 40) : itR (ubI im a i v) f r := by
  intro k hk
  rw [h k hk]
  exact (if_neg (by omega)).symm
theorem cp_on {im f f1 f2 : Nat → Int32} {a b i j n : Nat} (h : itR im f a) (h1 : itR im f1 b) (e : f2 = va_cpy f f1 i j n) (hi : i + n ≤ 40) : itR (cpI im a i b j n) f2 b := by
  intro k hk
  rw [e]
  show (if j ≤ k ∧ k < j + n then f (i + (k - j)) else f1 k) = (if 40 * b + j ≤ 40 * b + k ∧ 40 * b + k < 40 * b + j + n then im (40 * a + i + (40 * b + k - (40 * b + j))) else im (40 * b + k))
  by_cases q : j ≤ k ∧ k < j + n
  · rw [if_pos q, if_pos (by omega), h _ (by omega)]
    exact congrArg im (by omega)
  · rw [if_neg q, if_neg (by omega)]
    exact h1 k hk
theorem cp_off {im f : Nat → Int32} {a b r i j n : Nat} (h : itR im f r) (hn : ¬ r = b) (hj : j + n ≤ 40) : itR (cpI im a i b j n) f r := by
  intro k hk
  rw [h k hk]
  exact (if_neg (by omega)).symm
def itM (ln im it : Nat → Int32) : Prop := ∀ r k : Nat, r < 8 → k < 40 → 0 ≤ (ln r).toInt → it (40 * r + k) = im (40 * r + k)
theorem smO_N {f : Nat → Int} {q : Int32} {i : Int} {n : Nat} (h : q = smO f i.toNat) (h1 : (n : Int) ≤ i) (h2 : i ≤ n) : q = smO f n := by rw [h, show i.toNat = n from by omega]
theorem wtO_N {f : Nat → Int} {q : Int32} {i : Int} {n : Nat} (h : q = wtO f i.toNat) (h1 : (n : Int) ≤ i) (h2 : i ≤ n) : q = wtO f n := by rw [h, show i.toNat = n from by omega]
-- what the model sees
def GY (g : Nat → Int) (cy : Nat → Int32) : Prop := (cy 0).toInt = g 0 ∧ (cy 1).toInt = g 1 ∧ ∀ c : Nat, c < 80 → insG g c → (cy (4 + c)).toInt = g (4 + c)
theorem GY_s {g : Nat → Int} {cy : Nat → Int32} (h : CYs g cy) : GY g cy := ⟨h.1 0 (by omega), h.1 1 (by omega), h.2.1⟩
theorem GY_at {g : Nat → Int} {cy : Nat → Int32} {a : Int} (h : GY g cy) (hg : gB g) (hk : a = -1 ∨ insK g a) : a = -1 ∨ (0 ≤ a ∧ a < 80 ∧ (cy (4 + a.toNat)).toInt = g (4 + a.toNat)) := by
  rcases hk with q | q
  · exact Or.inl q
  · have b := insK_80 hg q
    refine Or.inr ⟨b.1, b.2, h.2.2 a.toNat (by omega) ?_⟩
    unfold insK at q
    unfold insG
    omega
theorem nbY {g : Nat → Int} {cy : Nat → Int32} {r k y : Int} (h : GY g cy) (hn : r = nbT (cy 0).toInt (cy 1).toInt k y) : r = nbT (g 0) (g 1) k y := by rw [hn, h.1, h.2.1]
theorem nbY_K {g : Nat → Int} {cy : Nat → Int32} {r k y : Int} (h : GY g cy) (hg : gB g) (hn : r = nbT (cy 0).toInt (cy 1).toInt k y) : r = -1 ∨ insK g r := by
  rw [nbY h hn]
  exact nbT_K hg
theorem fs_in {g : Nat → Int} {cy : Nat → Int32} {r k y : Int} (h : GY g cy) (hn : r = nbT (cy 0).toInt (cy 1).toInt k y) : fsT g y r = s1T g k y := by
  unfold s1T
  rw [← nbY h hn]
theorem fs_st {g : Nat → Int} {cy : Nat → Int32} {a r y S : Int} (h : GY g cy) (hg : gB g) (hy : 0 ≤ y ∧ y < 8) (hf : fsT g y a = S) (hk : a = -1 ∨ insK g a) (hn : r = nbT (cy 0).toInt (cy 1).toInt a y) (h0 : 0 ≤ a) (ho : (cy (4 + a.toNat)).toInt = -3) : fsT g y r = S := by
  have z := GY_at h hg hk
  rw [nbY h hn, ← hf]
  exact (fsT_y hg hy (by omega) (by omega)).symm
theorem fs_out {g : Nat → Int} {cy : Nat → Int32} {a y S : Int} (h : GY g cy) (hg : gB g) (hy : 0 ≤ y ∧ y < 8) (hf : fsT g y a = S) (hk : a = -1 ∨ insK g a) (hx : a < 0 ∨ ¬ (cy (4 + a.toNat)).toInt = -3) : a = S := by
  have z := GY_at h hg hk
  rw [← hf]
  exact (fsT_n hg hy (by omega) (by omega)).symm
theorem GYs {g : Nat → Int} {cy : Nat → Int32} {a k y : Int} (h : GY g cy) (hg : gB g) (hy : 0 ≤ y ∧ y < 8) (e : a = s1T g k y) : a = -1 ∨ (0 ≤ a ∧ a < 80 ∧ (cy (4 + a.toNat)).toInt = g (4 + a.toNat)) := GY_at h hg (by rw [e]; exact s1T_in hg hy)
theorem lk_0 {g : Nat → Int} {a k y : Int} (h : a = s1T g k y) (hn : ¬ (0 ≤ a ∧ g (4 + a.toNat) = -1)) : a = lkS g k y ∧ 0 = lkM g k y := by
  unfold lkS lkM rfS rfM
  rw [← h, if_neg hn, if_neg hn]
  exact ⟨rfl, rfl⟩
theorem lk_1 {g : Nat → Int} {a b k y : Int} (h : a = s1T g k y) (hm : 0 ≤ a ∧ g (4 + a.toNat) = -1) (h2 : b = s1T g k ((y + 4) % 8)) (hn : ¬ (0 ≤ b ∧ g (4 + b.toNat) = -1)) : b = lkS g k y ∧ 1 = lkM g k y := by
  unfold lkS lkM rfS rfM
  rw [← h, ← h2, if_pos hm, if_pos hm, if_neg hn, if_neg hn]
  exact ⟨rfl, rfl⟩
theorem lk_2 {g : Nat → Int} {a b k y : Int} (h : a = s1T g k y) (hm : 0 ≤ a ∧ g (4 + a.toNat) = -1) (h2 : b = s1T g k ((y + 4) % 8)) (hn : 0 ≤ b ∧ g (4 + b.toNat) = -1) : -1 = lkS g k y ∧ 2 = lkM g k y := by
  unfold lkS lkM rfS rfM
  rw [← h, ← h2, if_pos hm, if_pos hm, if_pos hn, if_pos hn]
  exact ⟨rfl, rfl⟩
theorem prY {g : Nat → Int} {o s r a b m : Int} (ho : o = ownG g s ∧ 0 ≤ o ∧ o ≤ 5) (ha : a = g (84 + o.toNat)) (hb : b = m + 1) (e : r = a * b) : r = prG g (ownG g s) m := by
  unfold prG
  rw [← ho.1, if_neg (by omega), e, ha, hb, Int.add_comm]
theorem prY_0 {g : Nat → Int} {s r m : Int} (ho : ownG g s = 6) (hr : r = 0) : r = prG g (ownG g s) m := by
  unfold prG
  rw [if_pos ho]
  exact hr
theorem pyY_0 {g : Nat → Int} {s r m p : Int} (ho : ownG g s = 6) (hr : r = 0) : r = pyG g p (ownG g s) m := by
  unfold pyG
  rw [if_pos ho]
  exact hr
theorem pyY_c {g : Nat → Int} {o s r m p : Int} (ho : o = ownG g s ∧ 0 ≤ o ∧ o ≤ 5) (hm : g (98 + 4 * p.toNat) = 1) (hf : g (90 + o.toNat) = 1) (hr : r = 0) : r = pyG g p (ownG g s) m := by
  unfold pyG
  rw [← ho.1, if_neg (by omega), if_pos ⟨hm, by omega⟩]
  exact hr
theorem pyY_p {g : Nat → Int} {o s r m p : Int} (ho : o = ownG g s ∧ 0 ≤ o ∧ o ≤ 5) (hn : ¬ (g (98 + 4 * p.toNat) = 1 ∧ ¬ g (90 + o.toNat) = 0)) (hr : r = prG g (ownG g s) m) : r = pyG g p (ownG g s) m := by
  unfold pyG
  unfold prG at hr
  rw [← ho.1, if_neg (by omega)] at hr
  rw [← ho.1, if_neg (by omega), if_neg hn]
  exact hr
theorem payY_N {g : Nat → Int} {cy : Nat → Int32} {p co : Int} {r : Int32} (h : CYd g cy) (hc : ¬ co < 8) (hr : r.toInt = 0) : r.toInt = coG g p co ∧ CYd (gaG g p co) cy := by
  unfold coG gaG
  rw [if_neg hc, if_neg hc]
  exact ⟨hr, h⟩
theorem payY_A {g : Nat → Int} {cy : Nat → Int32} {p co s m h : Int} {r : Int32} (hd : CYd g cy) (hh : h = g (96 + 4 * p.toNat)) (hs : s = lkS g h co) (hm : m = lkM g h co) (hc : co < 8) (ho : ownG g s = 6) (hr : r.toInt = pyG g p (ownG g s) m) : r.toInt = coG g p co ∧ CYd (gaG g p co) cy := by
  subst hh hs hm
  unfold coG gaG gpG
  rw [if_pos hc, if_pos hc, if_pos ho]
  exact ⟨hr, hd⟩
theorem payY_B {g : Nat → Int} {cy cy1 cy2 : Nat → Int32} {p co s m h o : Int} {r i j x y x2 y2 : Int32} (hd : CYd g cy) (hh : h = g (96 + 4 * p.toNat)) (hs : s = lkS g h co) (hm : m = lkM g h co) (hc : co < 8) (ho : o = ownG g s ∧ 0 ≤ o ∧ o ≤ 5) (hr : r.toInt = pyG g p (ownG g s) m) (hp : 0 ≤ p ∧ p < g 3) (h6 : g 3 ≤ 6) (e2 : upd cy1 j.toNatClampNeg y2 = cy2) (e1 : upd cy i.toNatClampNeg y = cy1) (ey : y = x + r) (ex : x = cy i.toNatClampNeg) (ey2 : y2 = x2 + 1) (ex2 : x2 = cy1 j.toNatClampNeg) (hi : i.toInt = 120 + 6 * p + o) (hj : j.toInt = 156 + 6 * p + o) : r.toInt = coG g p co ∧ CYd (gaG g p co) cy2 := by
  subst hh hs hm
  have e : r.toInt = coG g p co := by
    unfold coG
    rw [if_pos hc]
    exact hr
  refine ⟨e, ?_⟩
  unfold gaG
  rw [if_pos hc, ← e, ← ho.1]
  exact CYd_pay hd hp h6 ho.2 e1 ey ex e2 ey2 ex2 hi hj
theorem nxY_y {g : Nat → Int} {cy : Nat → Int32} {r k y : Int} (h : GY g cy) (hg : gB g) (hn : r = nbT (cy 0).toInt (cy 1).toInt k y) (h0 : 0 ≤ r) (ho : (cy (4 + r.toNat)).toInt = -3) : r = nxT g k y := by
  have z := GY_at h hg (nbY_K h hg hn)
  unfold nxT
  rw [← nbY h hn, if_pos (by omega)]
theorem nxY_n {g : Nat → Int} {cy : Nat → Int32} {r k y : Int} (h : GY g cy) (hg : gB g) (hn : r = nbT (cy 0).toInt (cy 1).toInt k y) (ho : r < 0 ∨ ¬ (cy (4 + r.toNat)).toInt = -3) : nxT g k y = -1 := by
  have z := GY_at h hg (nbY_K h hg hn)
  unfold nxT
  rw [← nbY h hn, if_neg (by omega)]
theorem lk_pr {g : Nat → Int} {r s m S M : Int} (hr : r = prG g (ownG g s) m) (hs : s = S) (hm : m = M) : r = prG g (ownG g S) M := by rw [← hs, ← hm]; exact hr
-- items of the model
def zbP (it : Nat → Int32) (a : Nat) (i : Int) (it1 : Nat → Int32) : Prop := ∀ k : Nat, it1 k = if 40 * a ≤ k ∧ (k : Int) < 40 * a + i then 0 else it k
theorem zbP_0 {it : Nat → Int32} {a : Nat} {i : Int} (h : i ≤ 0) : zbP it a i it := fun k => by rw [if_neg (by omega)]
theorem zbP_st {it it1 it2 : Nat → Int32} {a : Nat} {i i2 : Int} {x : Int32} (h : zbP it a i it1) (e : upd it1 x.toNatClampNeg 0 = it2) (hx : x.toInt = 40 * (a : Int) + i) (h0 : 0 ≤ i) (hi : i < 40) (h2 : i2 = i + 1) : zbP it a i2 it2 := by
  have h3 : x.toNatClampNeg = x.toInt.toNat := rfl
  intro k
  rw [← e]
  show (if k = x.toNatClampNeg then 0 else it1 k) = _
  by_cases q : k = x.toNatClampNeg
  · rw [if_pos q, if_pos (by omega)]
  · rw [if_neg q, h k]
    by_cases w : 40 * a ≤ k ∧ (k : Int) < 40 * a + i
    · rw [if_pos w, if_pos (by omega)]
    · rw [if_neg w, if_neg (by omega)]
theorem zbP_end {it it1 : Nat → Int32} {a : Nat} {i : Int} (h : zbP it a i it1) (hi : i = 40) : ∀ k : Nat, it1 k = zbI it a k := by
  intro k
  rw [h k]
  show _ = if k / 40 = a then 0 else it k
  by_cases w : 40 * a ≤ k ∧ (k : Int) < 40 * a + i
  · rw [if_pos w, if_pos (by omega)]
  · rw [if_neg w, if_neg (by omega)]
theorem ub_m {it it2 : Nat → Int32} {x a i v r : Int32} (us : upd it x.toNatClampNeg v = it2) (ui : x.toInt = 40 * a.toInt + i.toInt) (hr : r = v) (ha : 0 ≤ a.toInt) (hi : 0 ≤ i.toInt) : it2 = ubI it a.toNatClampNeg i.toNatClampNeg r := by
  have h1 : x.toNatClampNeg = x.toInt.toNat := rfl
  have h2 : a.toNatClampNeg = a.toInt.toNat := rfl
  have h3 : i.toNatClampNeg = i.toInt.toNat := rfl
  rw [← us, hr]
  funext k
  show (if k = x.toNatClampNeg then v else it k) = (if k = 40 * a.toNatClampNeg + i.toNatClampNeg then v else it k)
  rw [show x.toNatClampNeg = 40 * a.toNatClampNeg + i.toNatClampNeg from by omega]
def cpP (it : Nat → Int32) (a b i j n up k : Int) (it1 : Nat → Int32) : Prop := ∀ z : Nat, it1 z = if (up = 1 ∧ 40 * b + j ≤ z ∧ (z : Int) < 40 * b + j + k) ∨ (¬ up = 1 ∧ 40 * b + j + n - k ≤ z ∧ (z : Int) < 40 * b + j + n) then it (40 * a + i + (z - (40 * b + j))).toNat else it z
theorem cpP_0 {it : Nat → Int32} {a b i j n up k : Int} (h : k ≤ 0) : cpP it a b i j n up k it := fun z => by rw [if_neg (by omega)]
theorem cpP_st {it it1 it2 : Nat → Int32} {a b i j n up k k2 : Int} {x y v : Int32} (h : cpP it a b i j n up k it1) (e : upd it1 x.toNatClampNeg v = it2) (ev : v = it1 y.toNatClampNeg) (hxy : (up = 1 ∧ x.toInt = 40 * b + j + k ∧ y.toInt = 40 * a + i + k) ∨ (¬ up = 1 ∧ x.toInt = 40 * b + j + (n - 1 - k) ∧ y.toInt = 40 * a + i + (n - 1 - k))) (hk : 0 ≤ k ∧ k < n) (hr : 0 ≤ a ∧ a < 8 ∧ 0 ≤ b ∧ b < 8 ∧ 0 ≤ i ∧ 0 ≤ j ∧ i + n ≤ 40 ∧ j + n ≤ 40) (h2 : k2 = k + 1) (hup : (up = 1 ∧ j ≤ i) ∨ (up = 0 ∧ i < j)) : cpP it a b i j n up k2 it2 := by
  have h3 : x.toNatClampNeg = x.toInt.toNat := rfl
  have h4 : y.toNatClampNeg = y.toInt.toNat := rfl
  have hv : v = it y.toNatClampNeg := by rw [ev, h y.toNatClampNeg, if_neg (by omega)]
  intro z
  rw [← e]
  show (if z = x.toNatClampNeg then v else it1 z) = _
  by_cases q : z = x.toNatClampNeg
  · rw [if_pos q, if_pos (by omega), hv]
    exact congrArg it (by omega)
  · rw [if_neg q, h z]
    by_cases w : (up = 1 ∧ 40 * b + j ≤ z ∧ (z : Int) < 40 * b + j + k) ∨ (¬ up = 1 ∧ 40 * b + j + n - k ≤ z ∧ (z : Int) < 40 * b + j + n)
    · rw [if_pos w, if_pos (by omega)]
    · rw [if_neg w, if_neg (by omega)]
theorem cpP_end {it it1 : Nat → Int32} {a b i j n up k : Int} (h : cpP it a b i j n up k it1) (hk : k = n) (hr : 0 ≤ a ∧ 0 ≤ b ∧ 0 ≤ i ∧ 0 ≤ j ∧ 0 ≤ n) : ∀ z : Nat, it1 z = cpI it a.toNat i.toNat b.toNat j.toNat n.toNat z := by
  intro z
  rw [h z]
  show _ = if 40 * b.toNat + j.toNat ≤ z ∧ z < 40 * b.toNat + j.toNat + n.toNat then it (40 * a.toNat + i.toNat + (z - (40 * b.toNat + j.toNat))) else it z
  by_cases w : (up = 1 ∧ 40 * b + j ≤ z ∧ (z : Int) < 40 * b + j + k) ∨ (¬ up = 1 ∧ 40 * b + j + n - k ≤ z ∧ (z : Int) < 40 * b + j + n)
  · rw [if_pos w, if_pos (by omega)]
    exact congrArg it (by omega)
  · rw [if_neg w, if_neg (by omega)]
-- what calls answer and do
theorem wk_cg {it it2 : Nat → Int32} {p : Int} {g : Nat → Int} : ∀ n : Nat, (∀ j : Nat, j < n → it j = it2 j) → wkG it p g n = wkG it2 p g n := by
  intro n
  induction n with
  | zero => intro _; rfl
  | succ n ih =>
    intro h
    show ((wkG it p g n).1 + Int32.ofInt (coG (wkG it p g n).2 p (it n).toInt), stG (wkG it p g n).2 p (it n).toInt) = ((wkG it2 p g n).1 + Int32.ofInt (coG (wkG it2 p g n).2 p (it2 n).toInt), stG (wkG it2 p g n).2 p (it2 n).toInt)
    rw [ih (fun j hj => h j (by omega)), h n (by omega)]
def okW (g : Nat → Int) (a b nn : Int32) : Prop := onG g a.toInt ∧ (0 ≤ b.toInt ∧ b.toInt < 8) ∧ 1 ≤ nn.toInt ∧ nn.toInt ≤ 40
def roW (sn : Nat → Int32) (b i nn : Int32) : Prop := 0 ≤ i.toInt ∧ i.toInt + nn.toInt ≤ (sn b.toNatClampNeg).toInt
def mgW (g : Nat → Int) (iz : Nat → Int32) (a b i nn : Int32) : Prop := ∀ j : Nat, j < nn.toInt.toNat → mgG g a.toInt (iz (40 * b.toNatClampNeg + i.toNatClampNeg + j)).toInt
def itW (iz : Nat → Int32) (b i : Int32) : Nat → Int32 := fun z => iz (40 * b.toNatClampNeg + i.toNatClampNeg + z)
def stWalk (ln sn iz : Nat → Int32) (fz : Int32) (g : Nat → Int) (a b i nn r : Int32) (g2 : Nat → Int) (fz2 : Int32) : Prop := (¬ okW g a b nn ∧ r = -1000001 ∧ g2 = g ∧ fz2 = fz) ∨ (okW g a b nn ∧ (((ln b.toNatClampNeg).toInt < 0 ∧ r = -1000011 ∧ g2 = g ∧ fz2 = 1) ∨ (0 ≤ (ln b.toNatClampNeg).toInt ∧ ((¬ roW sn b i nn ∧ r = -1000012 ∧ g2 = g ∧ fz2 = 2) ∨ (roW sn b i nn ∧ ((¬ mgW g iz a b i nn ∧ r = -1000001 ∧ g2 = g ∧ fz2 = fz) ∨ (mgW g iz a b i nn ∧ r = (wkG (itW iz b i) a.toInt g nn.toInt.toNat).1 ∧ g2 = (wkG (itW iz b i) a.toInt g nn.toInt.toNat).2 ∧ fz2 = 0)))))))
theorem stWalk_eq {ln sn iz : Nat → Int32} {fz : Int32} {g g2 g3 : Nat → Int} {a b i nn r q fz2 fz3 : Int32} (h : stWalk ln sn iz fz g a b i nn r g2 fz2) (k : stWalk ln sn iz fz g a b i nn q g3 fz3) : r = q ∧ g2 = g3 ∧ fz2 = fz3 := by
  rcases h with ⟨h1, h2, h3, h4⟩ | ⟨h1, h⟩ <;> rcases k with ⟨k1, k2, k3, k4⟩ | ⟨k1, k⟩
  · exact ⟨h2.trans k2.symm, h3.trans k3.symm, h4.trans k4.symm⟩
  · exact absurd k1 h1
  · exact absurd h1 k1
  · rcases h with ⟨h1, h2, h3, h4⟩ | ⟨h1, h⟩ <;> rcases k with ⟨k1, k2, k3, k4⟩ | ⟨k1, k⟩
    · exact ⟨h2.trans k2.symm, h3.trans k3.symm, h4.trans k4.symm⟩
    · exact absurd h1 (by omega)
    · exact absurd k1 (by omega)
    · rcases h with ⟨h1, h2, h3, h4⟩ | ⟨h1, h⟩ <;> rcases k with ⟨k1, k2, k3, k4⟩ | ⟨k1, k⟩
      · exact ⟨h2.trans k2.symm, h3.trans k3.symm, h4.trans k4.symm⟩
      · exact absurd k1 h1
      · exact absurd h1 k1
      · rcases h with ⟨h1, h2, h3, h4⟩ | ⟨h1, h2, h3, h4⟩ <;> rcases k with ⟨k1, k2, k3, k4⟩ | ⟨k1, k2, k3, k4⟩
        · exact ⟨h2.trans k2.symm, h3.trans k3.symm, h4.trans k4.symm⟩
        · exact absurd k1 h1
        · exact absurd h1 k1
        · exact ⟨h2.trans k2.symm, h3.trans k3.symm, h4.trans k4.symm⟩
def stPerson (g : Nat → Int) (a wa r : Int32) : Prop := (¬ onG g a.toInt ∧ r.toInt = -1000001) ∨ (onG g a.toInt ∧ ((10 ≤ wa.toInt ∧ wa.toInt ≤ 15 ∧ r.toInt = g (120 + 6 * a.toInt.toNat + (wa.toInt - 10).toNat)) ∨ (20 ≤ wa.toInt ∧ wa.toInt ≤ 25 ∧ r.toInt = g (156 + 6 * a.toInt.toNat + (wa.toInt - 20).toNat)) ∨ (wa.toInt = 0 ∧ r.toInt = g (96 + 4 * a.toInt.toNat)) ∨ (wa.toInt = 1 ∧ r.toInt = g (97 + 4 * a.toInt.toNat)) ∨ (wa.toInt = 2 ∧ r.toInt = g (98 + 4 * a.toInt.toNat)) ∨ (wa.toInt = 4 ∧ r.toInt = g (99 + 4 * a.toInt.toNat)) ∨ (wa.toInt = 3 ∧ r.toInt = (smO (fun o : Nat => g (120 + 6 * a.toInt.toNat + o)) 6).toInt) ∨ ((wa.toInt < 0 ∨ (4 < wa.toInt ∧ wa.toInt < 10) ∨ (15 < wa.toInt ∧ wa.toInt < 20) ∨ 25 < wa.toInt) ∧ r.toInt = -1000001)))
theorem stPerson_eq {g : Nat → Int} {a wa r q : Int32} (h : stPerson g a wa r) (k : stPerson g a wa q) : r = q := by
  apply Int32.toInt_inj.mp
  rcases h with ⟨h1, h2⟩ | ⟨h1, h⟩ <;> rcases k with ⟨k1, k2⟩ | ⟨k1, k⟩
  · exact h2.trans k2.symm
  · exact absurd k1 h1
  · exact absurd h1 k1
  · rcases h with ⟨h1, h2, h3⟩ | ⟨h1, h2, h3⟩ | ⟨h1, h3⟩ | ⟨h1, h3⟩ | ⟨h1, h3⟩ | ⟨h1, h3⟩ | ⟨h1, h3⟩ | ⟨h1, h3⟩ <;> rcases k with ⟨k1, k2, k3⟩ | ⟨k1, k2, k3⟩ | ⟨k1, k3⟩ | ⟨k1, k3⟩ | ⟨k1, k3⟩ | ⟨k1, k3⟩ | ⟨k1, k3⟩ | ⟨k1, k3⟩ <;> first | exact h3.trans k3.symm | (exfalso; omega)
def stGot (th : Int32) (g : Nat → Int) (a r : Int32) : Prop := (th.toInt = 0 ∧ r = -1000002) ∨ ((¬ th.toInt = 0 ∧ ¬ (0 ≤ a.toInt ∧ a.toInt < 6)) ∧ r = -1000001) ∨ ((¬ th.toInt = 0 ∧ 0 ≤ a.toInt ∧ a.toInt < 6) ∧ r = smO (fun p : Nat => g (120 + 6 * p + a.toInt.toNat)) (g 3).toNat)
theorem stGot_eq {th : Int32} {g : Nat → Int} {a r q : Int32} (h : stGot th g a r) (k : stGot th g a q) : r = q := by
  rcases h with ⟨h1, h2⟩ | ⟨h1, h2⟩ | ⟨h1, h2⟩ <;> rcases k with ⟨k1, k2⟩ | ⟨k1, k2⟩ | ⟨k1, k2⟩ <;> first | exact h2.trans k2.symm | (exfalso; omega)
def stWit (th : Int32) (g : Nat → Int) (a r : Int32) : Prop := (th.toInt = 0 ∧ r = -1000002) ∨ ((¬ th.toInt = 0 ∧ ¬ (0 ≤ a.toInt ∧ a.toInt < 6)) ∧ r = -1000001) ∨ ((¬ th.toInt = 0 ∧ 0 ≤ a.toInt ∧ a.toInt < 6) ∧ r = wtO (fun p : Nat => g (156 + 6 * p + a.toInt.toNat)) (g 3).toNat)
theorem stWit_eq {th : Int32} {g : Nat → Int} {a r q : Int32} (h : stWit th g a r) (k : stWit th g a q) : r = q := by
  rcases h with ⟨h1, h2⟩ | ⟨h1, h2⟩ | ⟨h1, h2⟩ <;> rcases k with ⟨k1, k2⟩ | ⟨k1, k2⟩ | ⟨k1, k2⟩ <;> first | exact h2.trans k2.symm | (exfalso; omega)
theorem vw_w {g : Nat → Int} {V : Prop} (h : (g 0 = 0 ∧ g 3 = 0) ∨ V) (hz : 1 ≤ g 0 ∨ 1 ≤ g 3) : V := by
  rcases h with q | q
  · omega
  · exact q
theorem vw_cg {g g2 : Nat → Int} {vn vs vm vf : Nat → Int32} (h : (g 0 = 0 ∧ g 3 = 0) ∨ VWs g vn vs vm vf) (e : ∀ j : Nat, j < 84 → g2 j = g j) (hg : gB g) : (g2 0 = 0 ∧ g2 3 = 0) ∨ VWs g2 vn vs vm vf := by
  rcases h with q | q
  · rw [e 0 (by omega), e 3 (by omega)]
    exact Or.inl q
  · exact Or.inr (VWs_cg q e hg)
theorem stX {g : Nat → Int} {cw ch cp a co : Int32} {fc fp ff fh fm : Nat → Int32} (h : CXs g cw ch cp fc fp ff fh fm) : (0 ≤ a.toInt ∧ a.toInt < cp.toInt ∧ (((fm a.toNatClampNeg).toInt = 2 ∧ 0 ≤ co.toInt ∧ co.toInt < 16) ∨ (¬ (fm a.toNatClampNeg).toInt = 2 ∧ 0 ≤ co.toInt ∧ co.toInt < 8))) ↔ (onG g a.toInt ∧ mgG g a.toInt co.toInt) := by
  have e3 := h.2.2.1
  have h3 : a.toNatClampNeg = a.toInt.toNat := rfl
  unfold onG mgG
  constructor
  · intro z
    have m := h.2.2.2.2.2.2.2 a.toInt.toNat (by omega)
    rw [h3, m] at z
    omega
  · intro z
    have m := h.2.2.2.2.2.2.2 a.toInt.toNat (by omega)
    rw [h3, m]
    omega
theorem pr_rng {g : Nat → Int} {cw ch cp : Int32} {fc fp ff fh fm : Nat → Int32} (h : CXs g cw ch cp fc fp ff fh fm) (hp : gPr g) : rng fp 6 (0) (99) := by
  intro j hj
  rw [h.2.2.2.2.1 j hj]
  exact hp j hj
theorem gPr_y {g : Nat → Int} {cy : Nat → Int32} (hg : CYs g cy) (h : ∀ j : Nat, 84 ≤ j → j < 90 → 0 ≤ (cy j).toInt ∧ (cy j).toInt ≤ 99) : gPr g := by
  intro j hj
  have z := h (84 + j) (by omega) (by omega)
  rw [hg.1 (84 + j) (by omega)] at z
  exact z
theorem CXd_pr {g : Nat → Int} {fl fg fd fb : Nat → Int32} {k v : Int} (h : CXd g fl fg fd fb) (hk : 84 ≤ k ∧ k < 90) (h6 : g 3 ≤ 6) : CXd (updI g k v) fl fg fd fb := by
  have e : ∀ j : Nat, (j < 84 ∨ 90 ≤ j) → updI g k v j = g j := fun j hj => if_neg (by omega)
  intro p hp
  rw [e 3 (by omega)] at hp
  have y := h p hp
  rw [e (96 + 4 * p) (by omega), e (99 + 4 * p) (by omega)]
  refine ⟨y.1, y.2.1, fun o ho => ?_⟩
  rw [e (120 + 6 * p + o) (by omega), e (156 + 6 * p + o) (by omega)]
  exact y.2.2 o ho
theorem CYd_pr {g : Nat → Int} {cy cy2 : Nat → Int32} {i v : Int32} {k : Int} (h : CYd g cy) (e2 : cy2 = upd cy i.toNatClampNeg v) (hi : i.toInt = k) (hk : 84 ≤ k ∧ k < 90) : CYd (updI g k v.toInt) cy2 := by
  have h3 : i.toNatClampNeg = i.toInt.toNat := rfl
  have e : ∀ j : Nat, (j < 84 ∨ 90 ≤ j) → updI g k v.toInt j = g j := fun j hj => if_neg (by omega)
  have kc : ∀ j : Nat, (j < 84 ∨ 90 ≤ j) → cy2 j = cy j := fun j hj => by rw [e2]; exact if_neg (by omega)
  intro p hp
  rw [e 3 (by omega)] at hp
  have y := h p hp
  rw [e (96 + 4 * p) (by omega), e (99 + 4 * p) (by omega), kc (96 + 4 * p) (by omega), kc (99 + 4 * p) (by omega)]
  refine ⟨y.1, y.2.1, fun o ho => ?_⟩
  rw [e (120 + 6 * p + o) (by omega), e (156 + 6 * p + o) (by omega), kc (120 + 6 * p + o) (by omega), kc (156 + 6 * p + o) (by omega)]
  exact y.2.2 o ho
theorem gF_pr {g : Nat → Int} {k v : Int} (h : gF g) (hk : 84 ≤ k ∧ k < 90) : gF (updI g k v) := fun j hj => by
  rw [show updI g k v (90 + j) = g (90 + j) from if_neg (by omega)]
  exact h j hj
theorem CYd_eq {g : Nat → Int} {cy cy2 : Nat → Int32} (h : CYd g cy) (e : ∀ j : Nat, j < 192 → cy2 j = cy j) (h3 : g 3 ≤ 6) : CYd g cy2 := by
  intro p hp
  have y := h p hp
  rw [e (96 + 4 * p) (by omega), e (99 + 4 * p) (by omega)]
  refine ⟨y.1, y.2.1, fun o ho => ?_⟩
  rw [e (120 + 6 * p + o) (by omega), e (156 + 6 * p + o) (by omega)]
  exact y.2.2 o ho
