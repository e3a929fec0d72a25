-- how often an owner is paid on the way home without blind steps
def tmG (g : Nat → Int) (o c w : Int) : Int := if ownG g (lkS g c w) = o then 1 + lkM g c w else 0
def pts (g : Nat → Int) (p : Int) (Y : Int → Int) (o : Int) : Nat → Int → Int → Int → Prop
  | 0, a, b, s => b = a ∧ s = 0
  | k + 1, a, b, s => ∃ c w s0 : Int, pts g p Y o k a c s0 ∧ fsW g p Y c w ∧ b = edT g c w ∧ s = s0 + tmG g o (c % 80) (w % 8)
theorem pts_u {g : Nat → Int} {p o a : Int} {Y : Int → Int} : ∀ (k : Nat) (b s c u : Int), pts g p Y o k a b s → pts g p Y o k a c u → b = c ∧ s = u := by
  intro k
  induction k with
  | zero => intro b s c u h1 h2; exact ⟨h1.1.trans h2.1.symm, h1.2.trans h2.2.symm⟩
  | succ k ih =>
    intro b s c u h1 h2
    obtain ⟨d, w, s0, p1, p2, p3, p4⟩ := h1
    obtain ⟨d2, w2, s2, q1, q2, q3, q4⟩ := h2
    obtain ⟨e1, e2⟩ := ih d s0 d2 s2 p1 q1
    subst e1 e2
    have e := fsW_u p2 q2
    subst e
    exact ⟨p3.trans q3.symm, p4.trans q4.symm⟩
def pyB (g : Nat → Int) (p o : Int) : Prop := ¬ (g (98 + 4 * p.toNat) = 1 ∧ ¬ g (90 + o.toNat) = 0)
def tpR (g : Nat → Int) (p o v : Int) : Prop := (¬ pyB g p o ∧ v = 0) ∨ (pyB g p o ∧ Yh g p (sH g p 0) = 1073741824 ∧ v = 0) ∨ (pyB g p o ∧ Yh g p (sH g p 0) < 1073741824 ∧ ∃ m : Int, pts g p (Yh g p) o (Yh g p (sH g p 0) % 1024).toNat (sH g p 0) m v)
theorem tpR_u {g : Nat → Int} {p o v u : Int} (h : tpR g p o v) (z : tpR g p o u) : v = u := by
  rcases h with ⟨h1, h2⟩ | ⟨h1, h2, h3⟩ | ⟨h1, h2, m, h3⟩ <;> rcases z with ⟨z1, z2⟩ | ⟨z1, z2, z3⟩ | ⟨z1, z2, m2, z3⟩ <;> first | exact (pts_u _ _ _ _ _ h3 z3).2 | exact absurd z1 h1 | exact absurd h1 z1 | omega
noncomputable def tpF (g : Nat → Int) (p o : Int) : Int := Classical.epsilon (tpR g p o)
theorem tpF_eq {g : Nat → Int} {p o v : Int} (h : tpR g p o v) : tpF g p o = v := tpR_u (Classical.epsilon_spec ⟨v, h⟩) h
def PSs (g : Nat → Int) (p N st : Int) (Y : Int → Int) (o i n s : Int) : Prop := PTs g p N st Y i n ∧ pts g p Y o i.toNat st n s ∧ 0 ≤ s ∧ s ≤ 3 * i
theorem PS_0 {g : Nat → Int} {p N st o i s : Int} {Y : Int → Int} (hs : 0 ≤ st ∧ st < N) (hf : Y st < 1073741824) (hi : i = 0) (h0 : s = 0) : PSs g p N st Y o i st s := by
  refine ⟨PT_0 hs hf hi, ?_, by omega, by omega⟩
  rw [hi]
  exact ⟨rfl, h0⟩
theorem PS_st {g : Nat → Int} {p N st hm o i i2 n n2 w s s2 : Int} {Y : Int → Int} (h : PSs g p N st Y o i n s) (hw : fsW g p Y n w) (e : n2 = edT g n w) (es : s2 = s + tmG g o (n % 80) (w % 8)) (h2 : i2 = i + 1) (h0 : 0 ≤ i) (hi : i < Y st % 1024) (hY : YL g p N hm Y) (hg : gB g) (hf : feN g p) (h8 : N % 80 = 0) : PSs g p N st Y o i2 n2 s2 := by
  have b : 0 ≤ tmG g o (n % 80) (w % 8) ∧ tmG g o (n % 80) (w % 8) ≤ 3 := by
    have z := lkM_b g (n % 80) (w % 8)
    unfold tmG
    split <;> omega
  have q := PT_st h.1 hw e h2 h0 hi hY hg hf h8
  refine ⟨q, ?_, by have z := h.2.2; omega, by have z := h.2.2; omega⟩
  rw [h2, show (i + 1).toNat = i.toNat + 1 from by omega]
  exact ⟨n, w, s, h.2.1, hw, e, es⟩
theorem tp_0 {g : Nat → Int} {p o : Int} {v : Int} (h : ¬ pyB g p o) (hv : v = 0) : tpF g p o = v ∧ 0 ≤ v ∧ v ≤ 1440 := ⟨tpF_eq (Or.inl ⟨h, hv⟩), by omega, by omega⟩
theorem tp_1 {g : Nat → Int} {p o v st : Int} (h : pyB g p o) (hs : st = sH g p 0) (hf : Yh g p st = 1073741824) (hv : v = 0) : tpF g p o = v ∧ 0 ≤ v ∧ v ≤ 1440 := by
  rw [hs] at hf
  exact ⟨tpF_eq (Or.inr (Or.inl ⟨h, hf, hv⟩)), by omega, by omega⟩
theorem tp_2 {g : Nat → Int} {p o v st i n N : Int} (h : pyB g p o) (hs : st = sH g p 0) (hp : PSs g p N st (Yh g p) o i n v) (hi : i = Yh g p st % 1024) (hl : Yh g p st % 1024 ≤ 480) (hf : Yh g p st < 1073741824) : tpF g p o = v ∧ 0 ≤ v ∧ v ≤ 1440 := by
  obtain ⟨_, h2, h3, h4⟩ := hp
  refine ⟨tpF_eq (Or.inr (Or.inr ⟨h, by rw [← hs]; exact hf, n, ?_⟩)), h3, by omega⟩
  rw [← hs, ← hi]
  exact h2
-- what an owner earns
noncomputable def erA (g : Nat → Int) (o : Int) : Nat → Int
  | 0 => 0
  | n + 1 => erA g o n + tpF g n o * g (84 + o.toNat)
noncomputable def earnG (g : Nat → Int) (o : Int) : Int := erA g o (g 3).toNat
theorem mulT {x a b : Int32} (e : x = a * b) (ha : 0 ≤ a.toInt ∧ a.toInt ≤ 1440) (hb : 0 ≤ b.toInt ∧ b.toInt ≤ 99) : x.toInt = a.toInt * b.toInt ∧ 0 ≤ x.toInt ∧ x.toInt ≤ 142560 := by
  have h1 : 0 ≤ a.toInt * b.toInt := Int.mul_nonneg ha.1 hb.1
  have h2 : a.toInt * b.toInt ≤ 1440 * 99 := Int.mul_le_mul ha.2 hb.2 hb.1 (by omega)
  have h3 : x.toInt = a.toInt * b.toInt := mulI (A := a.toInt) (B := b.toInt) e rfl rfl (by omega) (by omega)
  exact ⟨h3, by omega, by omega⟩
theorem er_st {g : Nat → Int} {o q i i2 x y t : Int} (h : q = erA g o i.toNat) (h0 : 0 ≤ i) (e : y = q + x) (ex : x = t * g (84 + o.toNat)) (et : tpF g i o = t) (h2 : i2 = i + 1) : y = erA g o i2.toNat := by
  rw [h2, show (i + 1).toNat = i.toNat + 1 from by omega, e, h, ex, ← et]
  show _ = erA g o i.toNat + tpF g (i.toNat : Nat) o * g (84 + o.toNat)
  rw [show ((i.toNat : Nat) : Int) = i from by omega]
theorem er_N {g : Nat → Int} {o q i : Int} (h : q = erA g o i.toNat) (hi : i = g 3) : q = earnG g o := by rw [h, hi]; rfl
-- walks by what is paid to others and how often to one
def foG (g : Nat → Int) (p o c w : Int) : Int := if ownG g (lkS g c w) = o then 0 else feT g p c w
def wkT (g : Nat → Int) (p hm o : Int) : Nat → Int → Int → Int → Prop
  | 0, n, b, t => n % 80 = hm ∧ b = 0 ∧ t = 0
  | s + 1, n, b, t => opK g (n % 80) ∧ ∃ w : Int, 0 ≤ w ∧ w < 8 ∧ 0 ≤ edT g n w ∧ wkT g p hm o s (edT g n w) (b - foG g p o (n % 80) w) (t - tmG g o (n % 80) w)
def gV (g : Nat → Int) (o v : Int) : Nat → Int := updI g (84 + o) v
theorem gV_o {g : Nat → Int} {o v : Int} {j : Nat} (h : ¬ (j : Int) = 84 + o) : gV g o v j = g j := if_neg h
theorem gV_y {g : Nat → Int} {o v : Int} (h : 0 ≤ o) : gV g o v (84 + o.toNat) = v := if_pos (by omega)
theorem gV_g {g : Nat → Int} {o v : Int} (ho : 0 ≤ o) : ∀ j : Nat, j < 84 → gV g o v j = g j := fun j hj => gV_o (by omega)
theorem gV_fe {g : Nat → Int} {p o v c w : Int} (hg : gB g) (ho : 0 ≤ o ∧ o < 6) (hp : 0 ≤ p) (hb : pyB g p o) (hc : 0 ≤ c ∧ c < 80) (hw : 0 ≤ w ∧ w < 8) (hr : 0 ≤ ownG g (lkS g c w) ∧ ownG g (lkS g c w) ≤ 6) : feT (gV g o v) p c w = foG g p o c w + v * tmG g o c w := by
  have q := lk_cg (g := g) (g2 := gV g o v) (gV_g ho.1) hg hw hc
  unfold feT pyG foG tmG
  rw [q.2.2.2, q.2.1]
  by_cases e6 : ownG g (lkS g c w) = 6
  · rw [if_pos e6, if_neg (by omega), if_neg (by omega)]
    unfold feT pyG
    rw [if_pos e6]
    omega
  · rw [if_neg e6, gV_o (j := 98 + 4 * p.toNat) (by omega), gV_o (j := 90 + (ownG g (lkS g c w)).toNat) (by omega)]
    by_cases eo : ownG g (lkS g c w) = o
    · rw [if_pos eo, if_pos eo, eo, if_neg hb, gV_y ho.1]
      omega
    · rw [if_neg eo, if_neg eo, gV_o (by omega)]
      unfold feT pyG
      rw [if_neg e6]
      omega
theorem gV_ed {g : Nat → Int} {o v n w : Int} (hg : gB g) (ho : 0 ≤ o) (hw : 0 ≤ w) : edT (gV g o v) n w = edT g n w := by
  have q := lk_cg (g := g) (g2 := gV g o v) (k := n % 80) (y := w % 8) (gV_g ho) hg (by omega) (by omega)
  unfold edT
  rw [q.2.2.1]
theorem gV_op {g : Nat → Int} {o v k : Int} (hg : gB g) (ho : 0 ≤ o) : opK (gV g o v) k ↔ opK g k := by
  constructor
  · intro h
    exact opK_cg h (fun j hj => (gV_g ho j hj).symm) ⟨by rw [gV_g ho 0 (by omega)]; exact hg.1, by rw [gV_g ho 1 (by omega)]; exact hg.2⟩
  · intro h
    exact opK_cg h (gV_g ho) hg
theorem gV_tm {g : Nat → Int} {o v c w : Int} (hg : gB g) (ho : 0 ≤ o) (hc : 0 ≤ c ∧ c < 80) (hw : 0 ≤ w ∧ w < 8) : tmG (gV g o v) o c w = tmG g o c w := by
  have q := lk_cg (g := g) (g2 := gV g o v) (gV_g ho) hg hw hc
  unfold tmG
  rw [q.2.2.2, q.2.1]
/-- a walk told so is one at every price -/
theorem wk_R {g : Nat → Int} {p hm o v : Int} (go : gOK g) (ho : 0 ≤ o ∧ o < 6) (hp : 0 ≤ p) (hb : pyB g p o) : ∀ (s : Nat) (n b t : Int), 0 ≤ n → wkT g p hm o s n b t → wkR (gV g o v) p hm s n (1024 * (b + v * t) + s) := by
  have hg : gB g := ⟨go.1.2, go.2.1.2⟩
  intro s
  induction s with
  | zero =>
    intro n b t _ h
    obtain ⟨h1, h2, h3⟩ := h
    refine ⟨h1, ?_⟩
    rw [h2, h3, Int.mul_zero]
    rfl
  | succ s ih =>
    intro n b t n0 h
    obtain ⟨h1, w, w0, w1, e0, h2⟩ := h
    refine ⟨(gV_op hg ho.1).mpr h1, w, w0, by omega, by rw [gV_ed hg ho.1 w0]; exact e0, ?_⟩
    rw [gV_ed hg ho.1 w0]
    have z := ih _ _ _ e0 h2
    have r := own_b go (lk_in (k := n % 80) (y := w) hg ⟨w0, w1⟩)
    have f := gV_fe (v := v) hg ho hp hb (c := n % 80) (w := w) (by omega) ⟨w0, w1⟩ r
    have ew : ewT (gV g o v) p n w = 1024 * (foG g p o (n % 80) w + v * tmG g o (n % 80) w) + 1 := by
      unfold ewT
      rw [if_pos w1, f]
    rw [ew]
    have e : v * (t - tmG g o (n % 80) w) = v * t - v * tmG g o (n % 80) w := Int.mul_sub _ _ _
    rw [e] at z
    rw [show 1024 * (b + v * t) + ((s + 1 : Nat) : Int) - (1024 * (foG g p o (n % 80) w + v * tmG g o (n % 80) w) + 1) = 1024 * (b - foG g p o (n % 80) w + (v * t - v * tmG g o (n % 80) w)) + s from by omega]
    exact z
theorem Yd_lt {g : Nat → Int} {p N hm n c : Int} {s : Nat} (hg : gB g) (hf : feB g p) (h8 : N % 80 = 0) (hN : N ≤ 480) (hn : 0 ≤ n ∧ n < N) (h : wkR g p hm s n c) : Yd g p hm n < 1073741824 := by
  obtain ⟨_, k, h2, _⟩ := Yd_le (feB_N hf) h
  have b := Yd_b hg hf h8 hN _ n hn.1 hn.2 ⟨k, h2⟩ (Nat.le_refl _)
  have l := lsN_b (Y := Yd g p hm) hn
  omega
theorem ewB {g : Nat → Int} {p n w : Int} (hf : feB g p) (w0 : 0 ≤ w) : ewT g p n w ≤ 409601 := by
  unfold ewT
  split
  · next q =>
    have z := hf (n % 80) w (by omega) (by omega) w0 q
    omega
  · omega
/-- the way home, told as such a walk -/
theorem pts_wk {g : Nat → Int} {p hm o v a : Int} {Y : Int → Int} (go : gOK g) (ho : 0 ≤ o ∧ o < 6) (hp : 0 ≤ p) (hb : pyB g p o) (hY : YL (gV g o v) p 80 hm Y) (hf : feB (gV g o v) p) (ha : 0 ≤ a ∧ a < 80) : ∀ (k : Nat) (m s : Int), pts (gV g o v) p Y o k a m s → (0 ≤ m ∧ m < 80) ∧ ∀ (s2 : Nat) (b2 t2 : Int), wkT g p hm o s2 m b2 t2 → ∃ b : Int, wkT g p hm o (k + s2) a (b + b2) (s + t2) ∧ Y a = Y m + 1024 * (b + v * s) + k := by
  have hg : gB g := ⟨go.1.2, go.2.1.2⟩
  have hgv : gB (gV g o v) := ⟨by rw [gV_g ho.1 0 (by omega)]; exact hg.1, by rw [gV_g ho.1 1 (by omega)]; exact hg.2⟩
  intro k
  induction k with
  | zero =>
    intro m s h
    obtain ⟨h1, h2⟩ := h
    subst h1 h2
    refine ⟨ha, fun s2 b2 t2 h => ⟨0, ?_, ?_⟩⟩
    · rw [Nat.zero_add, Int.zero_add, Int.zero_add]
      exact h
    · rw [Int.mul_zero]
      show Y m = Y m + 1024 * (0 + 0) + ((0 : Nat) : Int)
      omega
  | succ k ih =>
    intro m s h
    obtain ⟨c, w, s0, h1, ⟨w0, w1, ⟨t1, t2, t3⟩, _⟩, h3, h4⟩ := h
    obtain ⟨c0, ihc⟩ := ih c s0 h1
    have ew := ewN (n := c) (feB_N hf) w0
    have wl : w < 8 := by
      refine Int.lt_of_not_ge (fun z => ?_)
      unfold edT at t1
      rw [if_neg (show ¬ w < 8 by omega), if_pos c0.2] at t1
      split at t1 <;> omega
    have r0 := nx_rng (g := gV g o v) (c := c % 80) (w := w % 8) hgv
    have ed : edT (gV g o v) c w < 80 := by
      unfold edT
      split
      · omega
      · first | omega | (rw [if_pos wl]; omega)
    have ym := hY.1 _ t1 ed
    have yc := hY.1 c c0.1 c0.2
    have nh : ¬ c % 80 = hm := fun z => by
      have y := hY.2.1 c c0.1 c0.2 z
      omega
    have eb := ewB (n := c) (w := w) hf w0
    have cf : Y c < 1073741824 := by omega
    have oc := (hY.2.2.2 c c0.1 c0.2 nh cf).1
    have oc2 := (gV_op hg ho.1).mp oc
    have em : m = edT g c w := h3.trans (gV_ed hg ho.1 w0)
    have mr : 0 ≤ m ∧ m < 80 := by
      have r := nx_rng (g := g) (c := c % 80) (w := w % 8) hg
      rw [gV_ed hg ho.1 w0] at t1
      refine ⟨by rw [em]; exact t1, ?_⟩
      rw [em]
      unfold edT
      split
      · omega
      · first | omega | (rw [if_pos wl]; omega)
    refine ⟨mr, fun s2 b2 t2' hk => ?_⟩
    have e8 : w % 8 = w := by omega
    rw [e8, gV_tm hg ho.1 (by omega) ⟨w0, wl⟩] at h4
    have st : wkT g p hm o (s2 + 1) c (b2 + foG g p o (c % 80) w) (t2' + tmG g o (c % 80) w) := by
      refine ⟨oc2, w, w0, wl, by rw [← em]; exact mr.1, ?_⟩
      rw [← em, Int.add_sub_cancel, Int.add_sub_cancel]
      exact hk
    obtain ⟨b, hb1, hb2⟩ := ihc (s2 + 1) _ _ st
    have r := own_b go (lk_in (k := c % 80) (y := w) hg ⟨w0, wl⟩)
    have f := gV_fe (v := v) hg ho hp hb (c := c % 80) (w := w) (by omega) ⟨w0, wl⟩ r
    have ewv : ewT (gV g o v) p c w = 1024 * (foG g p o (c % 80) w + v * tmG g o (c % 80) w) + 1 := by
      unfold ewT
      rw [if_pos wl, f]
    refine ⟨b + foG g p o (c % 80) w, ?_, ?_⟩
    · rw [show k + 1 + s2 = k + (s2 + 1) from by omega, show b + foG g p o (c % 80) w + b2 = b + (b2 + foG g p o (c % 80) w) from by omega, h4, show s0 + tmG g o (c % 80) w + t2' = s0 + (t2' + tmG g o (c % 80) w) from by omega]
      exact hb1
    · rw [ewv, ← h3] at t3
      have e : v * (s0 + tmG g o (c % 80) w) = v * s0 + v * tmG g o (c % 80) w := Int.mul_add _ _ _
      rw [h4, e]
      rw [← t3] at hb2
      omega
theorem gV_ok {g : Nat → Int} {o v : Int} (go : gOK g) (ho : 0 ≤ o ∧ o < 6) : gOK (gV g o v) := by
  refine ⟨by rw [gV_g ho.1 0 (by omega)]; exact go.1, by rw [gV_g ho.1 1 (by omega)]; exact go.2.1, by rw [gV_g ho.1 3 (by omega)]; exact go.2.2.1, fun c hc hi => ?_⟩
  unfold insG at hi
  rw [gV_g ho.1 0 (by omega), gV_g ho.1 1 (by omega)] at hi
  rw [gV_g ho.1 (4 + c) (by omega)]
  exact go.2.2.2 c hc hi
theorem gV_pr {g : Nat → Int} {o v : Int} (hp : gPr g) (hv : 0 ≤ v ∧ v ≤ 99) : gPr (gV g o v) := by
  intro j hj
  show 0 ≤ (if ((84 + j : Nat) : Int) = 84 + o then v else g (84 + j)) ∧ (if ((84 + j : Nat) : Int) = 84 + o then v else g (84 + j)) ≤ 99
  split
  · exact hv
  · exact hp j hj
theorem gV_Y {g : Nat → Int} {p o v : Int} (go : gOK g) (hpr : gPr g) (ho : 0 ≤ o ∧ o < 6) (hp : 0 ≤ p) (hv : 0 ≤ v ∧ v ≤ 99) : YL (gV g o v) p 80 (g (97 + 4 * p.toNat)) (Yh (gV g o v) p) := by
  have gv := gV_ok (v := v) go ho
  have z := Yd_YL (p := p) (N := 80) (hm := g (97 + 4 * p.toNat)) ⟨gv.1.2, gv.2.1.2⟩ (feB_of gv (gV_pr hpr hv)) (by omega) (by omega)
  unfold Yh
  rw [gV_o (j := 97 + 4 * p.toNat) (by omega)]
  exact z
theorem gV_pb {g : Nat → Int} {p o v : Int} (ho : 0 ≤ o ∧ o < 6) : pyB (gV g o v) p o ↔ pyB g p o := by
  unfold pyB
  rw [gV_o (j := 98 + 4 * p.toNat) (by omega), gV_o (j := 90 + o.toNat) (by omega)]
theorem gV_sH {g : Nat → Int} {p o v gb : Int} (ho : 0 ≤ o ∧ o < 6) : sH (gV g o v) p gb = sH g p gb := by
  unfold sH
  rw [gV_o (j := 96 + 4 * p.toNat) (by omega)]
theorem pts_mod {g : Nat → Int} {p hm o v a : Int} {Y : Int → Int} (go : gOK g) (ho : 0 ≤ o ∧ o < 6) (hY : YL (gV g o v) p 80 hm Y) (hf : feB (gV g o v) p) (ha : 0 ≤ a ∧ a < 80) (hfa : Y a < 1073741824) : ∀ (k : Nat) (m s : Int), pts (gV g o v) p Y o k a m s → (0 ≤ m ∧ m < 80) ∧ Y m < 1073741824 ∧ Y m % 1024 + k = Y a % 1024 := by
  have gv := gV_ok (v := v) go ho
  intro k
  induction k with
  | zero =>
    intro m s h
    obtain ⟨h1, _⟩ := h
    subst h1
    exact ⟨ha, hfa, by omega⟩
  | succ k ih =>
    intro m s h
    obtain ⟨c, w, s0, h1, ⟨w0, w1, ⟨t1, t2, t3⟩, _⟩, h3, _⟩ := h
    obtain ⟨c0, cf, c2⟩ := ih c s0 h1
    have ew := ewN (n := c) (feB_N hf) w0
    have ya := hY.1 a ha.1 ha.2
    have yc := hY.1 c c0.1 c0.2
    have r0 := nx_rng (g := gV g o v) (c := c % 80) (w := w % 8) ⟨gv.1.2, gv.2.1.2⟩
    have ed : edT (gV g o v) c w < 80 := by
      unfold edT
      split
      · omega
      · split
        · omega
        · rw [if_pos c0.2]; omega
    have ym := hY.1 _ t1 ed
    rw [h3]
    exact ⟨⟨t1, ed⟩, t2, by omega⟩
/-- there is a way home, or there is none, at whatever price -/
theorem gV_fin {g : Nat → Int} {p o v u : Int} (go : gOK g) (hpr : gPr g) (ho : 0 ≤ o ∧ o < 6) (hp : 0 ≤ p) (hb : pyB g p o) (hv : 0 ≤ v ∧ v ≤ 99) (hu : 0 ≤ u ∧ u ≤ 99) {st : Int} (hs : 0 ≤ st ∧ st < 80) (h : Yh (gV g o v) p st < 1073741824) {m t : Int} (h2 : pts (gV g o v) p (Yh (gV g o v) p) o (Yh (gV g o v) p st % 1024).toNat st m t) : ∃ b : Int, wkT g p (g (97 + 4 * p.toNat)) o (Yh (gV g o v) p st % 1024).toNat st b t ∧ Yh (gV g o v) p st = 1024 * (b + v * t) + Yh (gV g o v) p st % 1024 ∧ Yh (gV g o u) p st ≤ 1024 * (b + u * t) + Yh (gV g o v) p st % 1024 ∧ Yh (gV g o u) p st < 1073741824 := by
  have hY := gV_Y (v := v) go hpr ho hp hv
  have gv := gV_ok (v := v) go ho
  have hg : gB g := ⟨go.1.2, go.2.1.2⟩
  have fB := feB_of (p := p) gv (gV_pr (o := o) hpr hv)
  have P := pts_wk go ho hp hb hY fB hs _ m t h2
  have ky := hY.1 st hs.1 hs.2
  have my := hY.1 m P.1.1 P.1.2
  have kn : ((Yh (gV g o v) p st % 1024).toNat : Int) = Yh (gV g o v) p st % 1024 := by omega
  have hm : m % 80 = g (97 + 4 * p.toNat) := by
    refine Classical.byContradiction (fun nh => ?_)
    -- behind that many steps nothing is left
    have z := pts_mod go ho hY fB hs h _ m t h2
    have mf := z.2.1
    obtain ⟨oc, w, w0, w1, e0, e1, e2⟩ := hY.2.2.2 m P.1.1 P.1.2 nh mf
    have ew := ewN (n := m) (feB_N fB) w0
    have y0 : 0 ≤ Yh (gV g o v) p (edT (gV g o v) m w) := by
      by_cases q : edT (gV g o v) m w < 80
      · exact (hY.1 _ e0 q).1
      · have q2 := ed_N (N := 80) ⟨gv.1.2, gv.2.1.2⟩ (by omega) P.1 oc ⟨w0, w1⟩ rfl e0
        exact absurd q2 q
    have z1 := z.2.2
    omega
  obtain ⟨b, w1, w2⟩ := P.2 0 0 0 ⟨hm, rfl, rfl⟩
  rw [Nat.add_zero, Int.add_zero, Int.add_zero] at w1
  have m0 := hY.2.1 m P.1.1 P.1.2 hm
  refine ⟨b, w1, by omega, ?_⟩
  have R := wk_R (v := u) go ho hp hb _ st b t hs.1 w1
  have gu := gV_ok (v := u) go ho
  have fU := feB_N (feB_of (p := p) gu (gV_pr (o := o) hpr hu))
  have z := (Yd_le fU R).1
  have eU : Yh (gV g o u) p = Yd (gV g o u) p (g (97 + 4 * p.toNat)) := by
    unfold Yh
    rw [gV_o (j := 97 + 4 * p.toNat) (by omega)]
  have lt := Yd_lt ⟨gu.1.2, gu.2.1.2⟩ (feB_of (p := p) gu (gV_pr (o := o) hpr hu)) (N := 80) (by omega) (by omega) hs R
  rw [eU]
  refine ⟨?_, lt⟩
  rw [← kn]
  exact z
theorem fs_ex {g : Nat → Int} {p N hm k : Int} {Y : Int → Int} (hY : YL g p N hm Y) (hk : 0 ≤ k ∧ k < N) (hf : Y k < 1073741824) (hh : ¬ k % 80 = hm) : ∃ w : Int, fsW g p Y k w := by
  obtain ⟨_, w, w0, w1, e0, e1, e2⟩ := hY.2.2.2 k hk.1 hk.2 hh hf
  have h : tgW g p Y k ((w.toNat : Nat) : Int) := by
    rw [show ((w.toNat : Nat) : Int) = w from by omega]
    exact ⟨e0, e1, e2.symm⟩
  obtain ⟨m, h1, h2⟩ := least (P := fun j : Nat => tgW g p Y k (j : Int)) w.toNat h
  have z := h2 w.toNat h
  refine ⟨m, by omega, by omega, h1, fun u u0 u1 t => ?_⟩
  have y := h2 u.toNat (by show tgW g p Y k ((u.toNat : Nat) : Int); rw [show ((u.toNat : Nat) : Int) = u from by omega]; exact t)
  omega
theorem ps_ex {g : Nat → Int} {p N st hm o : Int} {Y : Int → Int} (hY : YL g p N hm Y) (hg : gB g) (hfe : feN g p) (h8 : N % 80 = 0) (hs : 0 ≤ st ∧ st < N) (hf : Y st < 1073741824) : ∀ k : Nat, (k : Int) ≤ Y st % 1024 → ∃ n s : Int, PSs g p N st Y o k n s := by
  intro k
  induction k with
  | zero => intro _; exact ⟨st, 0, PS_0 hs hf rfl rfl⟩
  | succ k ih =>
    intro hk
    obtain ⟨n, s, h⟩ := ih (by omega)
    obtain ⟨w, hw⟩ := fs_ex hY h.1.2.1 h.1.2.2.1 (PT_h h.1 hY (by omega))
    exact ⟨_, _, PS_st h hw rfl rfl (by omega) (by omega) (by omega) hY hg hfe h8⟩
theorem tp_ex {g : Nat → Int} {p o : Int} (go : gOK g) (hpr : gPr g) (hs : 0 ≤ sH g p 0 ∧ sH g p 0 < 80) : ∃ v : Int, tpR g p o v := by
  by_cases q : pyB g p o
  · have hB := feB_of (p := p) go hpr
    have hY := Yd_YL (p := p) (N := 80) (hm := g (97 + 4 * p.toNat)) ⟨go.1.2, go.2.1.2⟩ hB (by omega) (by omega)
    have y := hY.1 _ hs.1 hs.2
    by_cases f : Yh g p (sH g p 0) < 1073741824
    · obtain ⟨n, s, h⟩ := ps_ex (o := o) hY ⟨go.1.2, go.2.1.2⟩ (feB_N hB) (by omega) hs f (Yh g p (sH g p 0) % 1024).toNat (by show (((Yh g p (sH g p 0)) % 1024).toNat : Int) ≤ Yh g p (sH g p 0) % 1024; omega)
      have z := h.2.1
      rw [Int.toNat_natCast] at z
      exact ⟨s, Or.inr (Or.inr ⟨q, f, n, z⟩)⟩
    · refine ⟨0, Or.inr (Or.inl ⟨q, ?_, rfl⟩)⟩
      rcases y.2 with z | z
      · exact z
      · exact absurd z.1 f
  · exact ⟨0, Or.inl ⟨q, rfl⟩⟩
/-- nobody pays an owner more often at a higher price -/
theorem tp_mono {g : Nat → Int} {p o v u : Int} (go : gOK g) (hpr : gPr g) (ho : 0 ≤ o ∧ o < 6) (hp : 0 ≤ p) (hs : 0 ≤ sH g p 0 ∧ sH g p 0 < 80) (hv : 0 ≤ v) (hvu : v < u) (hu : u ≤ 99) : tpF (gV g o u) p o ≤ tpF (gV g o v) p o := by
  have ev : sH (gV g o v) p 0 = sH g p 0 := gV_sH ho
  have eu : sH (gV g o u) p 0 = sH g p 0 := gV_sH ho
  have h1 : tpR (gV g o v) p o (tpF (gV g o v) p o) := Classical.epsilon_spec (tp_ex (gV_ok go ho) (gV_pr hpr (by omega)) (by rw [ev]; exact hs))
  have h2 : tpR (gV g o u) p o (tpF (gV g o u) p o) := Classical.epsilon_spec (tp_ex (gV_ok go ho) (gV_pr hpr (by omega)) (by rw [eu]; exact hs))
  generalize tpF (gV g o v) p o = x at h1 ⊢
  generalize tpF (gV g o u) p o = y at h2 ⊢
  unfold tpR at h1 h2
  rw [ev, gV_pb ho] at h1
  rw [eu, gV_pb ho] at h2
  rcases h1 with ⟨a1, a2⟩ | ⟨a1, a2, a3⟩ | ⟨a1, a2, m, a3⟩ <;> rcases h2 with ⟨b1, b2⟩ | ⟨b1, b2, b3⟩ | ⟨b1, b2, m2, b3⟩
  · omega
  · exact absurd b1 a1
  · exact absurd b1 a1
  · exact absurd a1 b1
  · omega
  · have z := gV_fin (v := u) (u := v) go hpr ho hp a1 (by omega) (by omega) hs b2 b3
    obtain ⟨b, _, _, _, z4⟩ := z
    omega
  · exact absurd a1 b1
  · have z := gV_fin (v := v) (u := u) go hpr ho hp a1 (by omega) (by omega) hs a2 a3
    obtain ⟨b, _, _, _, z4⟩ := z
    omega
  · obtain ⟨b, _, z2, z3, _⟩ := gV_fin (v := v) (u := u) go hpr ho hp a1 (by omega) (by omega) hs a2 a3
    obtain ⟨c, _, y2, y3, _⟩ := gV_fin (v := u) (u := v) go hpr ho hp a1 (by omega) (by omega) hs b2 b3
    refine Int.not_lt.mp (fun lt => ?_)
    have q : 0 < (u - v) * (y - x) := Int.mul_pos (by omega) (by omega)
    have e : (u - v) * (y - x) = u * y - u * x - (v * y - v * x) := by rw [Int.sub_mul, Int.mul_sub, Int.mul_sub]
    omega
-- the market: what prices bring
noncomputable def TV (g : Nat → Int) (b a v : Int) : Int := tpF (gV g b v) a b
noncomputable def tsA (g : Nat → Int) (o v : Int) : Nat → Int
  | 0 => 0
  | n + 1 => tsA g o v n + TV g o n v
def bsF (f : Int → Int) : Nat → Int
  | 0 => 0
  | k + 1 => if f (bsF f k) < f ((k : Int) + 1) then (k : Int) + 1 else bsF f k
noncomputable def bvG (g : Nat → Int) (o v : Int) : Int := v * tsA g o v (g 3).toNat
noncomputable def bpG (g : Nat → Int) (o : Int) : Int := bsF (bvG g o) 20
theorem bsF_b (f : Int → Int) : ∀ k : Nat, 0 ≤ bsF f k ∧ bsF f k ≤ k := by
  intro k
  induction k with
  | zero => exact ⟨Int.le_refl 0, Int.le_refl 0⟩
  | succ k ih =>
    show 0 ≤ (if f (bsF f k) < f ((k : Int) + 1) then (k : Int) + 1 else bsF f k) ∧ (if f (bsF f k) < f ((k : Int) + 1) then (k : Int) + 1 else bsF f k) ≤ ((k + 1 : Nat) : Int)
    split <;> omega
theorem bs_y {f : Int → Int} {b j j2 : Int} (h : b = bsF f (j - 1).toNat) (hj : 1 ≤ j) (hlt : f b < f j) (h2 : j2 = j + 1) : j = bsF f (j2 - 1).toNat := by
  rw [h2, show (j + 1 - 1).toNat = (j - 1).toNat + 1 from by omega]
  show j = if f (bsF f (j - 1).toNat) < f (((j - 1).toNat : Int) + 1) then (((j - 1).toNat : Nat) : Int) + 1 else bsF f (j - 1).toNat
  rw [show (((j - 1).toNat : Nat) : Int) + 1 = j from by omega, ← h, if_pos hlt]
theorem bs_n {f : Int → Int} {b j j2 : Int} (h : b = bsF f (j - 1).toNat) (hj : 1 ≤ j) (hlt : ¬ f b < f j) (h2 : j2 = j + 1) : b = bsF f (j2 - 1).toNat := by
  rw [h2, show (j + 1 - 1).toNat = (j - 1).toNat + 1 from by omega]
  show b = if f (bsF f (j - 1).toNat) < f (((j - 1).toNat : Int) + 1) then (((j - 1).toNat : Nat) : Int) + 1 else bsF f (j - 1).toNat
  rw [show (((j - 1).toNat : Nat) : Int) + 1 = j from by omega, ← h, if_neg hlt]
theorem bs_N {g : Nat → Int} {o b j : Int} (h : b = bsF (bvG g o) (j - 1).toNat) (hj : j = 21) : b = bpG g o := by rw [h, hj]; rfl
theorem tpF_b {g : Nat → Int} {p o : Int} (go : gOK g) (hpr : gPr g) (hs : 0 ≤ sH g p 0 ∧ sH g p 0 < 80) : 0 ≤ tpF g p o ∧ tpF g p o ≤ 1440 := by
  obtain ⟨v, h⟩ := tp_ex (o := o) go hpr hs
  have e := tpF_eq h
  rw [e]
  have hY := Yd_YL (p := p) (N := 80) (hm := g (97 + 4 * p.toNat)) ⟨go.1.2, go.2.1.2⟩ (feB_of (p := p) go hpr) (by omega) (by omega)
  rcases h with ⟨_, h2⟩ | ⟨_, _, h3⟩ | ⟨_, h2, m, h3⟩
  · omega
  · omega
  · have y := hY.1 _ hs.1 hs.2
    have key : ∀ (k : Nat) (m s : Int), pts g p (Yh g p) o k (sH g p 0) m s → 0 ≤ s ∧ s ≤ 3 * (k : Int) := by
      intro k
      induction k with
      | zero => intro m s h; have z := h.2; omega
      | succ k ih =>
        intro m s h
        obtain ⟨c, w, s0, h1, _, _, h4⟩ := h
        have z := ih c s0 h1
        have b := lkM_b g (c % 80) (w % 8)
        have t : 0 ≤ tmG g o (c % 80) (w % 8) ∧ tmG g o (c % 80) (w % 8) ≤ 3 := by
          unfold tmG
          split <;> omega
        omega
    have z := key _ _ _ h3
    have y2 : Yh g p (sH g p 0) % 1024 ≤ 480 := by
      rcases y.2 with q | q
      · rw [show Yh g p (sH g p 0) = 1073741824 from q] at h2
        omega
      · exact q.2.1
    omega
theorem ts_b {g : Nat → Int} {o v : Int} (go : gOK g) (hpr : gPr g) (ho : 0 ≤ o ∧ o < 6) (hv : 0 ≤ v ∧ v ≤ 99) (hs : ∀ p : Nat, (p : Int) < g 3 → 0 ≤ sH g p 0 ∧ sH g p 0 < 80) : ∀ n : Nat, (n : Int) ≤ g 3 → 0 ≤ tsA g o v n ∧ tsA g o v n ≤ 1440 * n := by
  intro n
  induction n with
  | zero => intro _; exact ⟨Int.le_refl 0, Int.le_refl 0⟩
  | succ n ih =>
    intro hn
    have z := ih (by omega)
    have b := tpF_b (p := (n : Int)) (o := o) (gV_ok (v := v) go ho) (gV_pr hpr hv) (by rw [gV_sH ho]; exact hs n (by omega))
    show 0 ≤ tsA g o v n + TV g o n v ∧ tsA g o v n + TV g o n v ≤ 1440 * ((n + 1 : Nat) : Int)
    unfold TV
    omega
/-- what is earned at a price -/
theorem er_ts {g : Nat → Int} {o v : Int} (ho : 0 ≤ o ∧ o < 6) : ∀ n : Nat, erA (gV g o v) o n = v * tsA g o v n := by
  intro n
  induction n with
  | zero => show (0 : Int) = v * 0; rw [Int.mul_zero]
  | succ n ih =>
    show erA (gV g o v) o n + tpF (gV g o v) n o * (gV g o v) (84 + o.toNat) = v * (tsA g o v n + TV g o n v)
    rw [ih, gV_y ho.1, Int.mul_add, Int.mul_comm v (TV g o n v)]
    rfl
theorem earn_v {g : Nat → Int} {o v : Int} (ho : 0 ≤ o ∧ o < 6) : earnG (gV g o v) o = bvG g o v := by
  unfold earnG bvG
  rw [gV_o (j := 3) (by omega)]
  exact er_ts ho _
-- times by prices, as they are filled in
def FLi (g : Nat → Int) (b a lw i : Int) (fx fx1 : Nat → Int32) : Prop := (∀ v : Int, lw ≤ v → v < i → (fx1 v.toNat).toInt = TV g b a v) ∧ ∀ j : Nat, ((j : Int) ≤ lw ∨ i ≤ (j : Int)) → fx1 j = fx j
def FLf (g : Nat → Int) (b a lw hg : Int) (fx fx2 : Nat → Int32) : Prop := (∀ v : Int, lw ≤ v → v ≤ hg → (fx2 v.toNat).toInt = TV g b a v) ∧ ∀ j : Nat, ((j : Int) < lw ∨ hg < (j : Int)) → fx2 j = fx j
theorem FL_0 {g : Nat → Int} {b a lw i : Int} {fx : Nat → Int32} (hl : (fx lw.toNat).toInt = TV g b a lw) (h : i = lw + 1) : FLi g b a lw i fx fx := by
  refine ⟨fun v v0 v1 => ?_, fun _ _ => rfl⟩
  rw [show v = lw from by omega]
  exact hl
theorem FL_st {g : Nat → Int} {b a lw i2 x : Int} {fx fx1 fx2 : Nat → Int32} {i v : Int32} (h : FLi g b a lw i.toInt fx fx1) (e : upd fx1 i.toNatClampNeg v = fx2) (hi : 0 ≤ lw ∧ lw < i.toInt) (hv : v.toInt = x) (ht : TV g b a i.toInt = x) (h2 : i2 = i.toInt + 1) : FLi g b a lw i2 fx fx2 := by
  have h3 : i.toNatClampNeg = i.toInt.toNat := rfl
  rw [← e]
  refine ⟨fun u u0 u1 => ?_, fun j hj => ?_⟩
  · show (if u.toNat = i.toNatClampNeg then v else fx1 u.toNat).toInt = _
    by_cases q : u = i.toInt
    · rw [if_pos (by omega), q, hv, ht]
    · rw [if_neg (by omega)]
      exact h.1 u u0 (by omega)
  · show (if j = i.toNatClampNeg then v else fx1 j) = fx j
    rw [if_neg (by omega)]
    exact h.2 j (by omega)
theorem FL_end {g : Nat → Int} {b a lw hg i : Int} {fx fx1 : Nat → Int32} (h : FLi g b a lw i fx fx1) (hi : i = hg) (hh : (fx hg.toNat).toInt = TV g b a hg) (hr : 0 ≤ lw ∧ lw < hg) : FLf g b a lw hg fx fx1 := by
  subst hi
  refine ⟨fun v v0 v1 => ?_, fun j hj => h.2 j (by omega)⟩
  by_cases q : v < i
  · exact h.1 v v0 q
  · rw [show v = i from by omega, h.2 i.toNat (by omega)]
    exact hh
theorem FL_b {g : Nat → Int} {b a lw hg : Int} {fx : Nat → Int32} (hl : (fx lw.toNat).toInt = TV g b a lw) (hh : (fx hg.toNat).toInt = TV g b a hg) (h : hg - lw ≤ 1) : FLf g b a lw hg fx fx := by
  refine ⟨fun v v0 v1 => ?_, fun _ _ => rfl⟩
  by_cases q : v = lw
  · rw [q]; exact hl
  · rw [show v = hg from by omega]; exact hh
theorem FL_m {g : Nat → Int} {b a lw hg : Int} {fx fx0 fx1 fx2 : Nat → Int32} {md v : Int32} (e : upd fx md.toNatClampNeg v = fx0) (h1 : FLf g b a lw md.toInt fx0 fx1) (h2 : FLf g b a md.toInt hg fx1 fx2) (hr : 0 ≤ lw ∧ lw < md.toInt ∧ md.toInt < hg) : FLf g b a lw hg fx fx2 := by
  have h3 : md.toNatClampNeg = md.toInt.toNat := rfl
  refine ⟨fun u u0 u1 => ?_, fun j hj => ?_⟩
  · by_cases q : u < md.toInt
    · rw [h2.2 u.toNat (by omega)]
      exact h1.1 u u0 (by omega)
    · exact h2.1 u (by omega) u1
  · rw [h2.2 j (by omega), h1.2 j (by omega), ← e]
    exact if_neg (by omega)
theorem FL_l {lw x : Int} {fx fx0 : Nat → Int32} {md v : Int32} (hl : (fx lw.toNat).toInt = x) (e : upd fx md.toNatClampNeg v = fx0) (hr : 0 ≤ lw ∧ lw < md.toInt) : (fx0 lw.toNat).toInt = x := by
  have h3 : md.toNatClampNeg = md.toInt.toNat := rfl
  rw [← e, show upd fx md.toNatClampNeg v lw.toNat = fx lw.toNat from if_neg (by omega)]
  exact hl
theorem FL_on {fx fx0 : Nat → Int32} {md v : Int32} {x : Int} (e : upd fx md.toNatClampNeg v = fx0) (hv : v.toInt = x) : (fx0 md.toInt.toNat).toInt = x := by
  have h3 : md.toNatClampNeg = md.toInt.toNat := rfl
  rw [← e, show upd fx md.toNatClampNeg v md.toInt.toNat = v from if_pos h3.symm]
  exact hv
theorem FL_h {g : Nat → Int} {b a lw md hg x : Int} {fx fx0 fx1 : Nat → Int32} {m v : Int32} (h : FLf g b a lw md fx0 fx1) (e : upd fx m.toNatClampNeg v = fx0) (hh : (fx hg.toNat).toInt = x) (hm : m.toInt = md) (hr : 0 ≤ lw ∧ lw < md ∧ md < hg) : (fx1 hg.toNat).toInt = x := by
  have h3 : m.toNatClampNeg = m.toInt.toNat := rfl
  rw [h.2 hg.toNat (by omega), ← e, show upd fx m.toNatClampNeg v hg.toNat = fx hg.toNat from if_neg (by omega)]
  exact hh
theorem TV_mid {g : Nat → Int} {b a lw hg v : Int} (go : gOK g) (hpr : gPr g) (hb : 0 ≤ b ∧ b < 6) (ha : 0 ≤ a) (hs : 0 ≤ sH g a 0 ∧ sH g a 0 < 80) (hl : 0 ≤ lw) (hh : hg ≤ 99) (h1 : lw < v) (h2 : v < hg) (e : TV g b a lw = TV g b a hg) : TV g b a v = TV g b a lw := by
  have a1 := tp_mono go hpr hb ha hs hl h1 (by omega)
  have a2 := tp_mono go hpr hb ha hs (v := v) (u := hg) (by omega) h2 hh
  unfold TV at e ⊢
  omega
-- trial prices: those of the city but for one owner's
def CXo (g : Nat → Int) (b : Int) (fp ff fm : Nat → Int32) : Prop := (∀ j : Nat, j < 6 → ¬ (j : Int) = b → (fp j).toInt = g (84 + j)) ∧ (∀ j : Nat, j < 6 → (ff j).toInt = g (90 + j)) ∧ ∀ p : Nat, (p : Int) < g 3 → (fm p).toInt = g (98 + 4 * p)
theorem CXo_q {g : Nat → Int} {b : Int} {fp ff fm : Nat → Int32} (h : CXq g fp ff fm) : CXo g b fp ff fm := ⟨fun j hj _ => h.1 j hj, h.2.1, h.2.2⟩
theorem CXo_u {g : Nat → Int} {fp fp2 ff fm : Nat → Int32} {b v : Int32} (h : CXo g b.toInt fp ff fm) (e : upd fp b.toNatClampNeg v = fp2) (hb : 0 ≤ b.toInt) : CXo g b.toInt fp2 ff fm := by
  have h3 : b.toNatClampNeg = b.toInt.toNat := rfl
  refine ⟨fun j hj hn => ?_, h.2.1, h.2.2⟩
  rw [← e, show upd fp b.toNatClampNeg v j = fp j from if_neg (by omega)]
  exact h.1 j hj hn
theorem CXo_v {g : Nat → Int} {fp fp2 ff fm : Nat → Int32} {b v : Int32} {V : Int} (h : CXo g b.toInt fp ff fm) (e : upd fp b.toNatClampNeg v = fp2) (hb : 0 ≤ b.toInt ∧ b.toInt < 6) (hv : v.toInt = V) (h6 : g 3 ≤ 6) : CXq (gV g b.toInt V) fp2 ff fm := by
  have h3 : b.toNatClampNeg = b.toInt.toNat := rfl
  refine ⟨fun j hj => ?_, fun j hj => ?_, fun p hp => ?_⟩
  · rw [← e]
    show (if j = b.toNatClampNeg then v else fp j).toInt = _
    by_cases q : j = b.toNatClampNeg
    · rw [if_pos q, show 84 + j = 84 + b.toInt.toNat from by omega, gV_y hb.1]
      exact hv
    · rw [if_neg q, gV_o (by omega)]
      exact h.1 j hj (by omega)
  · rw [gV_o (by omega)]
    exact h.2.1 j hj
  · rw [gV_o (by omega)] at hp
    rw [gV_o (by omega)]
    exact h.2.2 p hp
theorem CXo_b {g : Nat → Int} {fp fp2 ff fm : Nat → Int32} {b v : Int32} (h : CXo g b.toInt fp ff fm) (e : upd fp b.toNatClampNeg v = fp2) (hb : 0 ≤ b.toInt ∧ b.toInt < 6) (hv : v.toInt = g (84 + b.toInt.toNat)) : CXq g fp2 ff fm := by
  have h3 : b.toNatClampNeg = b.toInt.toNat := rfl
  refine ⟨fun j hj => ?_, h.2.1, h.2.2⟩
  rw [← e]
  show (if j = b.toNatClampNeg then v else fp j).toInt = _
  by_cases q : j = b.toNatClampNeg
  · rw [if_pos q, hv]
    exact congrArg g (by omega)
  · rw [if_neg q]
    exact h.1 j hj (by omega)
theorem VWn_g {g g2 : Nat → Int} {vn vm vf : Nat → Int32} (h : VWn g vn vm vf) (e : ∀ j : Nat, j < 84 → g2 j = g j) (hg : gB g) : VWn g2 vn vm vf := by
  intro c w hc hw
  have z := h c w hc hw
  have q := lk_cg (k := (c : Int)) (y := (w : Int)) e hg (by omega) (by omega)
  rw [q.2.2.2, q.2.1, q.2.2.1]
  exact z
/-- all that a way home needs to know of the city -/
def PKw (g : Nat → Int) (fl fh vn vm vf : Nat → Int32) : Prop := gOK g ∧ gPr g ∧ gHo g ∧ (∀ p : Nat, (p : Int) < g 3 → (fl p).toInt = g (96 + 4 * p) ∧ 0 ≤ g (96 + 4 * p) ∧ g (96 + 4 * p) < 80) ∧ (∀ p : Nat, (p : Int) < g 3 → (fh p).toInt = g (97 + 4 * p)) ∧ (0 < g 3 → VWn g vn vm vf)
theorem PK_s {g : Nat → Int} {fl fh vn vm vf : Nat → Int32} {p : Int} (h : PKw g fl fh vn vm vf) (hp : 0 ≤ p ∧ p < g 3) : 0 ≤ sH g p 0 ∧ sH g p 0 < 80 := by
  have z := h.2.2.2.1 p.toNat (by omega)
  unfold sH
  omega
theorem PK_h {g : Nat → Int} {fl fh vn vm vf : Nat → Int32} {p : Int} (h : PKw g fl fh vn vm vf) (hp : 0 ≤ p ∧ p < g 3) : opK g (g (97 + 4 * p.toNat)) := h.2.2.1 p.toNat (by omega)
theorem PK_v {g : Nat → Int} {fl fh vn vm vf : Nat → Int32} {o v : Int} (h : PKw g fl fh vn vm vf) (ho : 0 ≤ o ∧ o < 6) (hv : 0 ≤ v ∧ v ≤ 99) : PKw (gV g o v) fl fh vn vm vf := by
  obtain ⟨h1, h2, h3, h4, h5, h6⟩ := h
  have hg : gB g := ⟨h1.1.2, h1.2.1.2⟩
  have e3 : gV g o v 3 = g 3 := gV_o (by omega)
  refine ⟨gV_ok h1 ho, gV_pr h2 hv, fun p hp => ?_, fun p hp => ?_, fun p hp => ?_, fun hz => ?_⟩
  · rw [e3] at hp
    rw [gV_o (by omega)]
    exact (gV_op hg ho.1).mpr (h3 p hp)
  · rw [e3] at hp
    rw [gV_o (by omega)]
    exact h4 p hp
  · rw [e3] at hp
    rw [gV_o (by omega)]
    exact h5 p hp
  · rw [e3] at hz
    exact VWn_g (h6 hz) (gV_g ho.1) hg
-- totals by prices
def TSi (g : Nat → Int) (b i : Int) (fy : Nat → Int32) : Prop := (fy 0).toInt = 0 ∧ ∀ v : Int, 1 ≤ v → v ≤ 20 → (fy v.toNat).toInt = tsA g b v i.toNat
def TSj (g : Nat → Int) (b i j : Int) (fy : Nat → Int32) : Prop := (fy 0).toInt = 0 ∧ ∀ v : Int, 1 ≤ v → v ≤ 20 → (v < j → (fy v.toNat).toInt = tsA g b v (i.toNat + 1)) ∧ (j ≤ v → (fy v.toNat).toInt = tsA g b v i.toNat)
theorem TSi_0 {g : Nat → Int} {b i : Int} {fy : Nat → Int32} (h : zr fy 21) (hi : i = 0) : TSi g b i fy := by
  subst hi
  refine ⟨by rw [h 0 (by omega)]; rfl, fun v v0 v1 => ?_⟩
  rw [h v.toNat (by omega)]
  rfl
theorem TSj_0 {g : Nat → Int} {b i j : Int} {fy : Nat → Int32} (h : TSi g b i fy) (hj : j ≤ 1) : TSj g b i j fy := ⟨h.1, fun v v0 v1 => ⟨fun z => absurd z (by omega), fun _ => h.2 v v0 v1⟩⟩
theorem TSj_st {g : Nat → Int} {b i j2 x y : Int} {fy fy2 fx fx2 : Nat → Int32} {j v : Int32} (h : TSj g b i j.toInt fy) (e : upd fy j.toNatClampNeg v = fy2) (hf : FLf g b i 1 20 fx2 fx) (hv : v.toInt = x + y) (hx : x = (fy j.toInt.toNat).toInt) (hy : y = (fx j.toInt.toNat).toInt) (hj : 1 ≤ j.toInt ∧ j.toInt ≤ 20) (h0 : 0 ≤ i) (h2 : j2 = j.toInt + 1) : TSj g b i j2 fy2 := by
  have h3 : j.toNatClampNeg = j.toInt.toNat := rfl
  rw [← e]
  refine ⟨?_, fun u u0 u1 => ?_⟩
  · show (if 0 = j.toNatClampNeg then v else fy 0).toInt = 0
    rw [if_neg (by omega)]
    exact h.1
  · have z := h.2 u u0 u1
    by_cases q : u = j.toInt
    · refine ⟨fun _ => ?_, fun y => absurd y (by omega)⟩
      show (if u.toNat = j.toNatClampNeg then v else fy u.toNat).toInt = _
      have a := z.2 (by omega)
      have f := hf.1 u (by omega) (by omega)
      rw [if_pos (by omega), hv, hx, hy, ← q, a, f]
      show tsA g b u i.toNat + TV g b i u = tsA g b u i.toNat + TV g b (i.toNat : Nat) u
      rw [show ((i.toNat : Nat) : Int) = i from by omega]
    · have k : (upd fy j.toNatClampNeg v u.toNat) = fy u.toNat := if_neg (by omega)
      rw [k]
      exact ⟨fun y => z.1 (by omega), fun y => z.2 (by omega)⟩
theorem TSj_e {g : Nat → Int} {b i i2 j : Int} {fy : Nat → Int32} (h : TSj g b i j fy) (hj : 21 ≤ j) (h0 : 0 ≤ i) (h2 : i2 = i + 1) : TSi g b i2 fy := by
  refine ⟨h.1, fun v v0 v1 => ?_⟩
  rw [h2, show (i + 1).toNat = i.toNat + 1 from by omega]
  exact (h.2 v v0 v1).1 (by omega)
theorem bv_at {g : Nat → Int} {b i v x : Int} {fy : Nat → Int32} (h : TSi g b i fy) (hi : i = g 3) (hv : 0 ≤ v ∧ v ≤ 20) (hx : x = (fy v.toNat).toInt) : v * x = bvG g b v := by
  unfold bvG
  by_cases q : v = 0
  · rw [q, Int.zero_mul, Int.zero_mul]
  · rw [hx, h.2 v (by omega) hv.2, hi]
theorem TS_b {g : Nat → Int} {b i v x : Int} {fy : Nat → Int32} (h : TSi g b i fy) (go : gOK g) (hpr : gPr g) (hb : 0 ≤ b ∧ b < 6) (hs : ∀ p : Nat, (p : Int) < g 3 → 0 ≤ sH g p 0 ∧ sH g p 0 < 80) (hi : 0 ≤ i ∧ i ≤ g 3) (hv : 0 ≤ v ∧ v ≤ 20) (hx : x = (fy v.toNat).toInt) : 0 ≤ x ∧ x ≤ 8640 := by
  by_cases q : v = 0
  · rw [q] at hx
    have z := h.1
    have e : x = (fy 0).toInt := hx
    omega
  · have z := ts_b (v := v) go hpr hb (by omega) hs i.toNat (by omega)
    have y := h.2 v (by omega) hv.2
    have g3 := go.2.2.1
    omega
theorem TSj_b {g : Nat → Int} {b i j x : Int} {fy : Nat → Int32} (h : TSj g b i j fy) (go : gOK g) (hpr : gPr g) (hb : 0 ≤ b ∧ b < 6) (hs : ∀ p : Nat, (p : Int) < g 3 → 0 ≤ sH g p 0 ∧ sH g p 0 < 80) (hi : 0 ≤ i ∧ i < g 3) (hj : 1 ≤ j ∧ j ≤ 20) (hx : x = (fy j.toNat).toInt) : 0 ≤ x ∧ x ≤ 8640 := by
  have z := ts_b (v := j) go hpr hb (by omega) hs i.toNat (by omega)
  have y := (h.2 j (by omega) hj.2).2 (Int.le_refl _)
  have g3 := go.2.2.1
  omega
theorem TV_b {g : Nat → Int} {b a v x : Int} {lw hg : Int} {fx fx2 : Nat → Int32} (h : FLf g b a lw hg fx2 fx) (go : gOK g) (hpr : gPr g) (hb : 0 ≤ b ∧ b < 6) (hs : 0 ≤ sH g a 0 ∧ sH g a 0 < 80) (hv : 0 ≤ v ∧ v ≤ 99 ∧ lw ≤ v ∧ v ≤ hg) (hx : x = (fx v.toNat).toInt) : 0 ≤ x ∧ x ≤ 1440 := by
  rw [hx, h.1 v hv.2.2.1 hv.2.2.2]
  exact tpF_b (gV_ok go hb) (gV_pr hpr ⟨hv.1, hv.2.1⟩) (by rw [gV_sH hb]; exact hs)
theorem mulQ {x a b : Int32} (e : x = a * b) (ha : 0 ≤ a.toInt ∧ a.toInt ≤ 20) (hb : 0 ≤ b.toInt ∧ b.toInt ≤ 8640) : x.toInt = a.toInt * b.toInt ∧ 0 ≤ x.toInt ∧ x.toInt ≤ 172800 := by
  have h1 : 0 ≤ a.toInt * b.toInt := Int.mul_nonneg ha.1 hb.1
  have h2 : a.toInt * b.toInt ≤ 20 * 8640 := Int.mul_le_mul ha.2 hb.2 hb.1 (by omega)
  have h3 : x.toInt = a.toInt * b.toInt := mulI (A := a.toInt) (B := b.toInt) e rfl rfl (by omega) (by omega)
  exact ⟨h3, by omega, by omega⟩
-- rivals
def hfG (g : Nat → Int) (o : Int) : Prop := ∃ c : Nat, c < 80 ∧ insG g c ∧ g (4 + c) = o
noncomputable def rvG (g : Nat → Int) : Nat → Nat → Int
  | 0 => g
  | k + 1 => ifP (hfG g k) (gV (rvG g k) k (bpG (rvG g k) k)) (rvG g k)
noncomputable def rsG (g : Nat → Int) : Nat → Prop
  | 0 => True
  | k + 1 => rsG g k ∧ (hfG g k → bpG (rvG g k) k = rvG g k (84 + k))
noncomputable def RGr (g : Nat → Int) : Nat → Nat → Int
  | 0 => g
  | r + 1 => rvG (RGr g r) 6
theorem rv_o {g : Nat → Int} : ∀ (k : Nat) (j : Nat), k ≤ 6 → (j < 84 ∨ 90 ≤ j) → rvG g k j = g j := by
  intro k
  induction k with
  | zero => intro j _ _; rfl
  | succ k ih =>
    intro j hk hj
    show ifP (hfG g k) (gV (rvG g k) k (bpG (rvG g k) k)) (rvG g k) j = g j
    rcases Classical.em (hfG g k) with q | q
    · rw [ifP_y q, gV_o (by omega)]
      exact ih j (by omega) hj
    · rw [ifP_n q]
      exact ih j (by omega) hj
theorem RG_o {g : Nat → Int} : ∀ (r : Nat) (j : Nat), (j < 84 ∨ 90 ≤ j) → RGr g r j = g j := by
  intro r
  induction r with
  | zero => intro j _; rfl
  | succ r ih =>
    intro j hj
    show rvG (RGr g r) 6 j = g j
    rw [rv_o 6 j (by omega) hj]
    exact ih j hj
theorem hf_cg {g g2 : Nat → Int} {o : Int} (e : ∀ j : Nat, j < 84 → g2 j = g j) : hfG g2 o ↔ hfG g o := by
  unfold hfG insG
  rw [e 0 (by omega), e 1 (by omega)]
  constructor
  · intro h
    obtain ⟨c, h1, h2, h3⟩ := h
    rw [e (4 + c) (by omega)] at h3
    exact ⟨c, h1, h2, h3⟩
  · intro h
    obtain ⟨c, h1, h2, h3⟩ := h
    exact ⟨c, h1, h2, by rw [e (4 + c) (by omega)]; exact h3⟩
theorem PK_rv {g : Nat → Int} {fl fh vn vm vf : Nat → Int32} (h : PKw g fl fh vn vm vf) : ∀ k : Nat, k ≤ 6 → PKw (rvG g k) fl fh vn vm vf := by
  intro k
  induction k with
  | zero => intro _; exact h
  | succ k ih =>
    intro hk
    have z := ih (by omega)
    have b := bsF_b (bvG (rvG g k) k) 20
    refine ifP_i (fun x => PKw x fl fh vn vm vf) ?_ z
    exact PK_v z (by omega) (by show 0 ≤ bsF (bvG (rvG g k) k) 20 ∧ bsF (bvG (rvG g k) k) 20 ≤ 99; omega)
theorem PK_RG {g : Nat → Int} {fl fh vn vm vf : Nat → Int32} (h : PKw g fl fh vn vm vf) : ∀ r : Nat, PKw (RGr g r) fl fh vn vm vf := by
  intro r
  induction r with
  | zero => exact h
  | succ r ih => exact PK_rv ih 6 (by omega)
theorem rs_u {g : Nat → Int} : ∀ (k : Nat), rsG g (k + 1) → rsG g k := fun _ h => h.1
/-- what comes of the rounds: the first that rests, or none, and the city then -/
def rivR (g : Nat → Int) (rs : Int32) (g2 : Nat → Int) : Prop := (∃ k : Nat, k < 10 ∧ (∀ j : Nat, j < k → ¬ rsG (RGr g j) 6) ∧ rsG (RGr g k) 6 ∧ rs.toInt = k + 1 ∧ g2 = RGr g (k + 1)) ∨ ((∀ j : Nat, j < 10 → ¬ rsG (RGr g j) 6) ∧ rs = -1000000 ∧ g2 = RGr g 10)
theorem rivR_u {g g2 g3 : Nat → Int} {rs ru : Int32} (h : rivR g rs g2) (z : rivR g ru g3) : rs = ru ∧ g2 = g3 := by
  rcases h with ⟨k, h1, h2, h3, h4, h5⟩ | ⟨h1, h2, h3⟩ <;> rcases z with ⟨j, z1, z2, z3, z4, z5⟩ | ⟨z1, z2, z3⟩
  · have e : k = j := by
      by_cases a : k < j
      · exact absurd h3 (z2 k a)
      · by_cases b : j < k
        · exact absurd z3 (h2 j b)
        · omega
    subst e
    exact ⟨Int32.toInt_inj.mp (by omega), h5.trans z5.symm⟩
  · exact absurd h3 (z1 k h1)
  · exact absurd z3 (h1 j z1)
  · exact ⟨h2.trans z2.symm, h3.trans z3.symm⟩
theorem riv_y {g : Nat → Int} {i : Int} {rs : Int32} (h : ∀ j : Nat, (j : Int) < i - 1 → ¬ rsG (RGr g j) 6) (hr : rsG (RGr g (i - 1).toNat) 6) (hi : 1 ≤ i ∧ i ≤ 10) (e : rs.toInt = i) : rivR g rs (RGr g ((i - 1).toNat + 1)) := Or.inl ⟨(i - 1).toNat, by omega, fun j hj => h j (by omega), hr, by omega, rfl⟩
theorem riv_n {g : Nat → Int} {i : Int} {rs : Int32} (h : ∀ j : Nat, (j : Int) < i - 1 → ¬ rsG (RGr g j) 6) (hi : i = 11) (e : rs = -1000000) : rivR g rs (RGr g 10) := Or.inr ⟨fun j hj => h j (by omega), e, rfl⟩
def nrG (g : Nat → Int) (i : Int) : Prop := ∀ j : Nat, (j : Int) < i - 1 → ¬ rsG (RGr g j) 6
theorem nr_0 {g : Nat → Int} {i : Int} (h : i ≤ 1) : nrG g i := fun j hj => absurd hj (by omega)
theorem nr_st {g : Nat → Int} {i i2 : Int} (h : nrG g i) (hn : ¬ rsG (RGr g (i - 1).toNat) 6) (h1 : 1 ≤ i) (e : i2 = i + 1) : nrG g i2 := by
  intro j hj
  by_cases q : (j : Int) = i - 1
  · rw [show j = (i - 1).toNat from by omega]
    exact hn
  · exact h j (by omega)
/-- one owner more -/
theorem rv_y {g : Nat → Int} {j j2 b : Int} (hf : hfG g j) (hb : b = bpG (rvG g j.toNat) j) (h0 : 0 ≤ j) (e : j2 = j + 1) : rvG g j2.toNat = gV (rvG g j.toNat) j b := by
  rw [e, show (j + 1).toNat = j.toNat + 1 from by omega]
  show ifP (hfG g (j.toNat : Nat)) (gV (rvG g j.toNat) (j.toNat : Nat) (bpG (rvG g j.toNat) (j.toNat : Nat))) (rvG g j.toNat) = _
  rw [show ((j.toNat : Nat) : Int) = j from by omega, ifP_y hf, hb]
theorem rv_n {g : Nat → Int} {j j2 : Int} (hf : ¬ hfG g j) (h0 : 0 ≤ j) (e : j2 = j + 1) : rvG g j2.toNat = rvG g j.toNat := by
  rw [e, show (j + 1).toNat = j.toNat + 1 from by omega]
  show ifP (hfG g (j.toNat : Nat)) (gV (rvG g j.toNat) (j.toNat : Nat) (bpG (rvG g j.toNat) (j.toNat : Nat))) (rvG g j.toNat) = _
  rw [show ((j.toNat : Nat) : Int) = j from by omega, ifP_n hf]
theorem rs_y {g : Nat → Int} {j j2 b c : Int} (hf : hfG g j) (hb : b = bpG (rvG g j.toNat) j) (hc : c = rvG g j.toNat (84 + j.toNat)) (h0 : 0 ≤ j) (e : j2 = j + 1) : rsG g j2.toNat ↔ (rsG g j.toNat ∧ b = c) := by
  rw [e, show (j + 1).toNat = j.toNat + 1 from by omega]
  show (rsG g j.toNat ∧ (hfG g (j.toNat : Nat) → bpG (rvG g j.toNat) (j.toNat : Nat) = rvG g j.toNat (84 + j.toNat))) ↔ _
  rw [show ((j.toNat : Nat) : Int) = j from by omega, ← hb, ← hc]
  exact ⟨fun z => ⟨z.1, z.2 hf⟩, fun z => ⟨z.1, fun _ => z.2⟩⟩
theorem rs_n {g : Nat → Int} {j j2 : Int} (hf : ¬ hfG g j) (h0 : 0 ≤ j) (e : j2 = j + 1) : rsG g j2.toNat ↔ rsG g j.toNat := by
  rw [e, show (j + 1).toNat = j.toNat + 1 from by omega]
  show (rsG g j.toNat ∧ (hfG g (j.toNat : Nat) → _)) ↔ _
  rw [show ((j.toNat : Nat) : Int) = j from by omega]
  exact ⟨fun z => z.1, fun z => ⟨z, fun y => absurd y hf⟩⟩
def stEarns (th : Int32) (g : Nat → Int) (a wa r : Int32) : Prop := (th.toInt = 0 ∧ r = -1000002) ∨ ((¬ th.toInt = 0 ∧ ¬ (0 ≤ a.toInt ∧ a.toInt < 6 ∧ 0 ≤ wa.toInt ∧ wa.toInt < 2)) ∧ r = -1000001) ∨ ((¬ th.toInt = 0 ∧ 0 ≤ a.toInt ∧ a.toInt < 6) ∧ ((wa.toInt = 0 ∧ r.toInt = earnG g a.toInt) ∨ (wa.toInt = 1 ∧ r.toInt = bpG g a.toInt)))
theorem stEarns_eq {th : Int32} {g : Nat → Int} {a wa r q : Int32} (h : stEarns th g a wa r) (z : stEarns th g a wa q) : r = q := by
  rcases h with ⟨h1, h2⟩ | ⟨h1, h2⟩ | ⟨h1, ⟨h2, h3⟩ | ⟨h2, h3⟩⟩ <;> rcases z with ⟨z1, z2⟩ | ⟨z1, z2⟩ | ⟨z1, ⟨z2, z3⟩ | ⟨z2, z3⟩⟩ <;> first | (exfalso; omega) | exact h2.trans z2.symm | exact Int32.toInt_inj.mp (h3.trans z3.symm)
def stRivals (th : Int32) (g : Nat → Int) (a r : Int32) : Prop := (th.toInt = 0 ∧ r = -1000002) ∨ ((¬ th.toInt = 0 ∧ ¬ (-1 ≤ a.toInt ∧ a.toInt < 6)) ∧ r = -1000001) ∨ ((¬ th.toInt = 0 ∧ -1 ≤ a.toInt ∧ a.toInt < 6) ∧ ∃ (rs : Int32) (g2 : Nat → Int), rivR g rs g2 ∧ ((a.toInt = -1 ∧ r = rs) ∨ (0 ≤ a.toInt ∧ r.toInt = g2 (84 + a.toInt.toNat))))
theorem stRivals_eq {th : Int32} {g : Nat → Int} {a r q : Int32} (h : stRivals th g a r) (z : stRivals th g a q) : r = q := by
  rcases h with ⟨h1, h2⟩ | ⟨h1, h2⟩ | ⟨h1, rs, g2, h2, h3⟩ <;> rcases z with ⟨z1, z2⟩ | ⟨z1, z2⟩ | ⟨z1, ru, g3, z2, z3⟩ <;> first | (exfalso; omega) | exact h2.trans z2.symm | skip
  obtain ⟨e1, e2⟩ := rivR_u h2 z2
  subst e1 e2
  rcases h3 with ⟨h4, h5⟩ | ⟨h4, h5⟩ <;> rcases z3 with ⟨z4, z5⟩ | ⟨z4, z5⟩ <;> first | (exfalso; omega) | exact h5.trans z5.symm | exact Int32.toInt_inj.mp (h5.trans z5.symm)
-- a new wall
def gW (g : Nat → Int) (k : Int) : Nat → Int := updI g (4 + k) (-2)
def tkG (g : Nat → Int) (k : Int) : Prop := ∃ p : Nat, (p : Int) < g 3 ∧ (g (96 + 4 * p) = k ∨ g (97 + 4 * p) = k)
def stWall (g : Nat → Int) (k a r : Int32) : Prop := (¬ (opK g k.toInt ∧ (0 ≤ a.toInt ∧ a.toInt < 6) ∧ ¬ tkG g k.toInt) ∧ r = -1000001) ∨ ((opK g k.toInt ∧ (0 ≤ a.toInt ∧ a.toInt < 6) ∧ ¬ tkG g k.toInt) ∧ r.toInt = earnG g a.toInt - earnG (gW g k.toInt) a.toInt)
theorem stWall_eq {g : Nat → Int} {k a r q : Int32} (h : stWall g k a r) (z : stWall g k a q) : r = q := by
  rcases h with ⟨h1, h2⟩ | ⟨h1, h2⟩ <;> rcases z with ⟨z1, z2⟩ | ⟨z1, z2⟩
  · exact h2.trans z2.symm
  · exact absurd z1 h1
  · exact absurd h1 z1
  · exact Int32.toInt_inj.mp (h2.trans z2.symm)
theorem gW_o {g : Nat → Int} {k : Int} {j : Nat} (h : ¬ (j : Int) = 4 + k) : gW g k j = g j := if_neg h
theorem gW_y {g : Nat → Int} {k : Int} (h : 0 ≤ k) : gW g k (4 + k.toNat) = -2 := if_pos (by omega)
theorem gW_op {g : Nat → Int} {k c : Int} (hk : 0 ≤ k ∧ k < 80) (h : opK g c) (hn : ¬ c = k) : opK (gW g k) c := by
  obtain ⟨h1, h2⟩ := h
  unfold opK insK at *
  have h0 := h1.1
  rw [gW_o (j := 0) (by omega), gW_o (j := 1) (by omega), gW_o (j := 4 + c.toNat) (by omega)]
  exact ⟨h1, h2⟩
theorem gW_ok {g : Nat → Int} {k : Int} (go : gOK g) (hk : 0 ≤ k ∧ k < 80) : gOK (gW g k) := by
  refine ⟨by rw [gW_o (by omega)]; exact go.1, by rw [gW_o (by omega)]; exact go.2.1, by rw [gW_o (by omega)]; exact go.2.2.1, fun c hc hi => ?_⟩
  unfold insG at hi
  rw [gW_o (j := 0) (by omega), gW_o (j := 1) (by omega)] at hi
  by_cases q : (c : Int) = k
  · rw [show 4 + c = 4 + k.toNat from by omega, gW_y hk.1]
    omega
  · rw [gW_o (by omega)]
    exact go.2.2.2 c hc hi
/-- the city with a new wall, where nobody is -/
theorem PK_w {g : Nat → Int} {fl fh vn vm vf un um uf : Nat → Int32} {k : Int} (h : PKw g fl fh vn vm vf) (hk : 0 ≤ k ∧ k < 80) (ht : ¬ tkG g k) (hv : VWn (gW g k) un um uf) : PKw (gW g k) fl fh un um uf := by
  obtain ⟨h1, h2, h3, h4, h5, _⟩ := h
  have e3 : gW g k 3 = g 3 := gW_o (by omega)
  refine ⟨gW_ok h1 hk, fun j hj => by rw [gW_o (by omega)]; exact h2 j hj, fun p hp => ?_, fun p hp => ?_, fun p hp => ?_, fun _ => hv⟩
  · rw [e3] at hp
    rw [gW_o (j := 97 + 4 * p) (by omega)]
    exact gW_op hk (h3 p hp) (fun z => ht ⟨p, hp, Or.inr z⟩)
  · rw [e3] at hp
    rw [gW_o (j := 96 + 4 * p) (by omega)]
    exact h4 p hp
  · rw [e3] at hp
    rw [gW_o (j := 97 + 4 * p) (by omega)]
    exact h5 p hp
theorem CXq_w {g : Nat → Int} {fp ff fm : Nat → Int32} {k : Int} (h : CXq g fp ff fm) (hk : 0 ≤ k ∧ k < 80) : CXq (gW g k) fp ff fm := by
  refine ⟨fun j hj => ?_, fun j hj => ?_, fun p hp => ?_⟩
  · rw [gW_o (by omega)]; exact h.1 j hj
  · rw [gW_o (by omega)]; exact h.2.1 j hj
  · rw [gW_o (j := 3) (by omega)] at hp
    rw [gW_o (by omega)]; exact h.2.2 p hp
theorem GC_w {g : Nat → Int} {cw ch : Int} {fc f1 : Nat → Int32} {k v : Int32} (h : GC g cw ch fc) (e : upd fc k.toNatClampNeg v = f1) (hv : v.toInt = 1) (hk : 0 ≤ k.toInt ∧ k.toInt < 80) : GC (gW g k.toInt) cw ch f1 := by
  have h3 : k.toNatClampNeg = k.toInt.toNat := rfl
  refine ⟨by rw [gW_o (by omega)]; exact h.1, by rw [gW_o (by omega)]; exact h.2.1, fun c hc hi => ?_⟩
  unfold insG at hi
  rw [gW_o (j := 0) (by omega), gW_o (j := 1) (by omega)] at hi
  rw [← e]
  show (if c = k.toNatClampNeg then v else fc c).toInt = _
  by_cases q : c = k.toNatClampNeg
  · rw [if_pos q, hv, show 4 + c = 4 + k.toInt.toNat from by omega, gW_y hk.1]
    rfl
  · rw [if_neg q, gW_o (by omega)]
    exact h.2.2 c hc hi
theorem PS_eq {g : Nat → Int} {p N st o i i2 n s : Int} {Y : Int → Int} (h : PSs g p N st Y o i n s) (e : i = i2) : PSs g p N st Y o i2 n s := by rw [← e]; exact h
theorem pb_y {g : Nat → Int} {fp ff fm : Nat → Int32} {a b : Int32} (hq : CXq g fp ff fm) (ha : 0 ≤ a.toInt ∧ a.toInt < g 3) (hb : 0 ≤ b.toInt ∧ b.toInt < 6) (h : ¬ ((fm a.toNatClampNeg).toInt = 1 ∧ ¬ (ff b.toNatClampNeg).toInt = 0)) : pyB g a.toInt b.toInt := by
  have h3 : a.toNatClampNeg = a.toInt.toNat := rfl
  have h4 : b.toNatClampNeg = b.toInt.toNat := rfl
  unfold pyB
  rw [← hq.2.2 a.toInt.toNat (by omega), ← hq.2.1 b.toInt.toNat (by omega)]
  exact h
theorem pb_n {g : Nat → Int} {fp ff fm : Nat → Int32} {a b : Int32} (hq : CXq g fp ff fm) (ha : 0 ≤ a.toInt ∧ a.toInt < g 3) (hb : 0 ≤ b.toInt ∧ b.toInt < 6) (h : (fm a.toNatClampNeg).toInt = 1 ∧ ¬ (ff b.toNatClampNeg).toInt = 0) : ¬ pyB g a.toInt b.toInt := by
  have h3 : a.toNatClampNeg = a.toInt.toNat := rfl
  have h4 : b.toNatClampNeg = b.toInt.toNat := rfl
  unfold pyB
  rw [← hq.2.2 a.toInt.toNat (by omega), ← hq.2.1 b.toInt.toNat (by omega)]
  exact fun z => z h
theorem er_2 {g : Nat → Int} {o q i i2 x y t : Int} (ex : x = t * g (84 + o.toNat)) (et : tpF g i o = t) (h : q = erA g o i.toNat) (e : y = q + x) (h0 : 0 ≤ i) (h2 : i2 = i + 1) : y = erA g o i2.toNat := er_st h h0 e ex et h2
theorem er_eq {g : Nat → Int} {o q i i2 : Int} (h : q = erA g o i.toNat) (e : i = i2) : q = erA g o i2.toNat := by rw [← e]; exact h
theorem FLi_eq {g : Nat → Int} {b a lw i i2 : Int} {fx fx1 : Nat → Int32} (h : FLi g b a lw i fx fx1) (e : i = i2) : FLi g b a lw i2 fx fx1 := by rw [← e]; exact h
-- the model's sums along the ways home
theorem gV_id {g : Nat → Int} {o : Int} (ho : 0 ≤ o) : gV g o (g (84 + o.toNat)) = g := by
  funext j
  show (if (j : Int) = 84 + o then g (84 + o.toNat) else g j) = g j
  split
  · exact congrArg g (by omega)
  · rfl
theorem gV_gV {g : Nat → Int} {o v u : Int} : gV (gV g o v) o u = gV g o u := by
  funext j
  show (if (j : Int) = 84 + o then u else if (j : Int) = 84 + o then v else g j) = (if (j : Int) = 84 + o then u else g j)
  split <;> rfl
/-- what was added so far, along the way -/
def ErI (g : Nat → Int) (p o N n0 : Int) (Y : Int → Int) (k q : Int) : Prop := (Y n0 = 1073741824 ∧ k = n0 ∧ q = 0) ∨ (Y n0 < 1073741824 ∧ ∃ i s : Int, 0 ≤ i ∧ PSs g p N n0 Y o i k s ∧ (pyB g p o → q = s * g (84 + o.toNat)) ∧ (¬ pyB g p o → q = 0))
theorem ErI_0 {g : Nat → Int} {p o N n0 k q hm : Int} {Y : Int → Int} (hY : YL g p N hm Y) (hs : 0 ≤ n0 ∧ n0 < N) (hk : k = n0) (hq : q = 0) : ErI g p o N n0 Y k q := by
  have y := hY.1 n0 hs.1 hs.2
  by_cases f : Y n0 < 1073741824
  · refine Or.inr ⟨f, 0, 0, Int.le_refl 0, ?_, fun _ => by rw [hq, Int.zero_mul], fun _ => hq⟩
    rw [hk]
    exact PS_0 hs f rfl rfl
  · exact Or.inl ⟨by omega, hk, hq⟩
theorem ErI_b {g : Nat → Int} {p o N n0 k q hm : Int} {Y : Int → Int} (h : ErI g p o N n0 Y k q) (hY : YL g p N hm Y) (hs : 0 ≤ n0 ∧ n0 < N) (hpr : gPr g) (ho : 0 ≤ o ∧ o < 6) : 0 ≤ q ∧ q ≤ 142560 := by
  rcases h with ⟨_, _, h⟩ | ⟨f, i, s, h1, h2, h3, h4⟩
  · omega
  · by_cases b : pyB g p o
    · rw [h3 b]
      have y := hY.1 n0 hs.1 hs.2
      have z := h2.1.2.2.2.1
      have zk := hY.1 k h2.1.2.1.1 h2.1.2.1.2
      have s3 := h2.2.2
      have pr := hpr o.toNat (by omega)
      have a1 : 0 ≤ s * g (84 + o.toNat) := Int.mul_nonneg s3.1 pr.1
      have a2 : s * g (84 + o.toNat) ≤ 1440 * 99 := Int.mul_le_mul (by omega) pr.2 pr.1 (by omega)
      omega
    · rw [h4 b]
      omega
theorem ErI_st {g : Nat → Int} {p o N n0 k k2 q q2 w ct hm : Int} {Y : Int → Int} (h : ErI g p o N n0 Y k q) (hw : fsW g p Y k w) (e : k2 = edT g k w) (hq : q2 = q + ct) (hct : (ownG g (lkS g k w) = o ∧ ct = feT g p k w) ∨ (¬ ownG g (lkS g k w) = o ∧ ct = 0)) (hf : Y k < 1073741824) (hm0 : 0 < Y k % 1024) (hw8 : w < 8) (hk : 0 ≤ k ∧ k < 80) (ho : 0 ≤ o ∧ o < 6) (hY : YL g p N hm Y) (hg : gB g) (hfe : feN g p) (h8 : N % 80 = 0) : ErI g p o N n0 Y k2 q2 := by
  rcases h with ⟨h1, h2, h3⟩ | ⟨f, i, s, h1, h2, h3, h4⟩
  · rw [h2, h1] at hf
    omega
  · have z := h2.1.2.2.2.1
    have w0 := hw.1
    have e1 : k % 80 = k := by omega
    have e2 : w % 8 = w := by omega
    have P := PS_st (s2 := s + tmG g o (k % 80) (w % 8)) h2 hw e rfl rfl h1 (by omega) hY hg hfe h8
    rw [e1, e2] at P
    refine Or.inr ⟨f, i + 1, s + tmG g o k w, by omega, P, fun b => ?_, fun b => ?_⟩
    · rw [hq, h3 b, Int.add_mul]
      have c : ct = tmG g o k w * g (84 + o.toNat) := by
        unfold tmG
        rcases hct with ⟨c1, c2⟩ | ⟨c1, c2⟩
        · rw [if_pos c1, c2]
          unfold feT pyG
          rw [c1, if_neg (by omega), if_neg b, Int.mul_comm]
        · rw [if_neg c1, c2, Int.zero_mul]
      rw [c]
    · rw [hq, h4 b]
      rcases hct with ⟨c1, c2⟩ | ⟨c1, c2⟩
      · rw [c2]
        unfold feT pyG
        unfold pyB at b
        rw [c1, if_neg (by omega), if_pos (Classical.byContradiction b)]
        rfl
      · rw [c2]
        rfl
theorem ErI_end {g : Nat → Int} {p o N n0 k q hm : Int} {Y : Int → Int} (h : ErI g p o N n0 Y k q) (hk : Y n0 < 1073741824 → Y k % 1024 = 0) (hY : YL g p N hm Y) (eY : Y = Yh g p) (hs : n0 = sH g p 0) (hn : 0 ≤ n0 ∧ n0 < N) (hpr : gPr g) (ho : 0 ≤ o ∧ o < 6) : q = tpF g p o * g (84 + o.toNat) := by
  subst eY
  rcases h with ⟨h1, h2, h3⟩ | ⟨f, i, s, h1, h2, h3, h4⟩
  · by_cases b : pyB g p o
    · rw [(tp_1 b hs h1 rfl).1, h3, Int.zero_mul]
    · rw [(tp_0 b rfl).1, h3, Int.zero_mul]
  · by_cases b : pyB g p o
    · have z := h2.1.2.2.2.1
      have e := hk f
      have y := hY.1 n0 hn.1 hn.2
      have l : Yh g p n0 % 1024 ≤ 480 := by omega
      rw [(tp_2 b hs h2 (by omega) l f).1]
      exact h3 b
    · rw [(tp_0 b rfl).1, Int.zero_mul]
      exact h4 b
def bmI (f : Int → Int) (v be mx : Int) : Prop := (v = 0 ∧ be = 0 ∧ mx = -1) ∨ (1 ≤ v ∧ be = bsF f (v - 1).toNat ∧ mx = f be)
theorem bm_y {f : Int → Int} {v v2 be mx x : Int} (h : bmI f v be mx) (hx : x = f v) (h0 : f 0 = 0) (hv : 0 ≤ v) (hlt : mx < x) (e : v2 = v + 1) : bmI f v2 v x := by
  refine Or.inr ⟨by omega, ?_, hx⟩
  rcases h with ⟨a, b, c⟩ | ⟨a, b, c⟩
  · rw [e, a]
    rfl
  · exact bs_y b a (by omega) e
theorem bm_n {f : Int → Int} {v v2 be mx x : Int} (h : bmI f v be mx) (hx : x = f v) (h0 : f 0 = 0) (hv : 0 ≤ v) (hlt : ¬ mx < x) (e : v2 = v + 1) : bmI f v2 be mx := by
  rcases h with ⟨a, b, c⟩ | ⟨a, b, c⟩
  · rw [a, h0] at hx
    omega
  · exact Or.inr ⟨by omega, bs_n b a (by omega) e, c⟩
theorem bm_N {g : Nat → Int} {o v be mx : Int} (h : bmI (bvG g o) v be mx) (hv : v = 21) : be = bpG g o := by
  rcases h with ⟨a, _, _⟩ | ⟨_, b, _⟩
  · omega
  · exact bs_N b hv
theorem bv_0 {g : Nat → Int} {o : Int} : bvG g o 0 = 0 := Int.zero_mul _
theorem CYs_w {g : Nat → Int} {cy cy2 : Nat → Int32} {k : Int} {i v : Int32} (h : CYs g cy) (e : upd cy i.toNatClampNeg v = cy2) (hi : i.toInt = 4 + k) (hv : v.toInt = -2) (hk : 0 ≤ k ∧ k < 80) (h3 : g 3 ≤ 6) : CYs (gW g k) cy2 := by
  have h4 : i.toNatClampNeg = i.toInt.toNat := rfl
  have key : ∀ j : Nat, ¬ (j : Int) = 4 + k → cy2 j = cy j ∧ gW g k j = g j := fun j hj => ⟨by rw [← e]; exact if_neg (by omega), gW_o hj⟩
  refine ⟨fun j hj => ?_, fun c hc hi2 => ?_, fun p hp => ?_⟩
  · have z := key j (by omega)
    rw [z.1, z.2]
    exact h.1 j hj
  · unfold insG at hi2
    rw [gW_o (j := 0) (by omega), gW_o (j := 1) (by omega)] at hi2
    by_cases q : (c : Int) = k
    · rw [show 4 + c = 4 + k.toNat from by omega, gW_y hk.1, ← e, show upd cy i.toNatClampNeg v (4 + k.toNat) = v from if_pos (by omega)]
      exact hv
    · have z := key (4 + c) (by omega)
      rw [z.1, z.2]
      exact h.2.1 c hc hi2
  · rw [gW_o (j := 3) (by omega)] at hp
    have z1 := key (97 + 4 * p) (by omega)
    have z2 := key (98 + 4 * p) (by omega)
    rw [z1.1, z1.2, z2.1, z2.2]
    exact h.2.2 p hp
theorem CYd_w {g : Nat → Int} {cy cy2 : Nat → Int32} {k : Int} {i v : Int32} (h : CYd g cy) (e : upd cy i.toNatClampNeg v = cy2) (hi : i.toInt = 4 + k) (hk : 0 ≤ k ∧ k < 80) : CYd (gW g k) cy2 := by
  have h4 : i.toNatClampNeg = i.toInt.toNat := rfl
  have key : ∀ j : Nat, ¬ (j : Int) = 4 + k → cy2 j = cy j ∧ gW g k j = g j := fun j hj => ⟨by rw [← e]; exact if_neg (by omega), gW_o hj⟩
  intro p hp
  rw [gW_o (j := 3) (by omega)] at hp
  have y := h p hp
  have z1 := key (96 + 4 * p) (by omega)
  have z2 := key (99 + 4 * p) (by omega)
  rw [z1.1, z1.2, z2.1, z2.2]
  refine ⟨y.1, y.2.1, fun o ho => ?_⟩
  have z3 := key (120 + 6 * p + o) (by omega)
  have z4 := key (156 + 6 * p + o) (by omega)
  rw [z3.1, z3.2, z4.1, z4.2]
  exact y.2.2 o ho
