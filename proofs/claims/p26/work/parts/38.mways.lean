/-! the ways home: labels, steps, and what they cost -/
def cv (f : Nat → Int32) (n : Int) : Int := (f n.toNat).toInt
def gt (go : Nat → Int32) (k w : Int) : Int := cv go (8 * k + w % 8)
def th (go : Nat → Int32) (n w : Int) : Int := gt go (n % 80) w + (n - n % 80) - (if w < 8 then 0 else 80)
def fc (fe : Nat → Int32) (n w : Int) : Int := if w < 8 then cv fe (8 * (n % 80) + w) else 0
theorem th_lo {go : Nat → Int32} {n w : Int} (h : w < 8) : th go n w = gt go (n % 80) w + (n - n % 80) := by unfold th; rw [if_pos h]; omega
theorem th_hi {go : Nat → Int32} {n w : Int} (h : ¬ w < 8) : th go n w = gt go (n % 80) w + (n - n % 80) - 80 := by unfold th; rw [if_neg h]
theorem fc_lo {fe : Nat → Int32} {n w : Int} (h : w < 8) : fc fe n w = cv fe (8 * (n % 80) + w) := if_pos h
theorem fc_hi {fe : Nat → Int32} {n w : Int} (h : ¬ w < 8) : fc fe n w = 0 := if_neg h
/-- a step that betters the label of n -/
def bet (co aw fe go : Nat → Int32) (n w : Int) : Prop := 0 ≤ gt go (n % 80) w ∧ 0 ≤ th go n w ∧ cv co (th go n w) < 268435456 ∧ (cv co (th go n w) + fc fe n w < cv co n ∨ (cv co (th go n w) + fc fe n w = cv co n ∧ cv aw (th go n w) + 1 < cv aw n))
/-- a step no worse than the label of n -/
def par (co aw fe go : Nat → Int32) (n w : Int) : Prop := 0 ≤ gt go (n % 80) w ∧ 0 ≤ th go n w ∧ cv co (th go n w) < 268435456 ∧ (cv co (th go n w) + fc fe n w < cv co n ∨ (cv co (th go n w) + fc fe n w = cv co n ∧ cv aw (th go n w) + 1 ≤ cv aw n))
/-- a step that makes the label of n -/
def mtc (co aw fe go : Nat → Int32) (n w : Int) : Prop := 0 ≤ gt go (n % 80) w ∧ 0 ≤ th go n w ∧ cv co (th go n w) < 268435456 ∧ cv co (th go n w) + fc fe n w = cv co n ∧ cv aw (th go n w) + 1 = cv aw n
def lxb (co aw : Nat → Int32) (a b : Nat) : Bool := decide ((co a).toInt < (co b).toInt ∨ ((co a).toInt = (co b).toInt ∧ (aw a).toInt < (aw b).toInt))
def cn (q : Nat → Bool) : Nat → Nat
  | 0 => 0
  | n + 1 => cn q n + (if q n = true then 1 else 0)
theorem cn_le {q : Nat → Bool} : ∀ n, cn q n ≤ n
  | 0 => Nat.le_refl 0
  | n + 1 => by
    have h := cn_le (q := q) n
    unfold cn
    split <;> omega
theorem cn_mono {q r : Nat → Bool} (h : ∀ j, q j = true → r j = true) : ∀ n, cn q n ≤ cn r n
  | 0 => Nat.le_refl 0
  | n + 1 => by
    have h1 := cn_mono h n
    unfold cn
    by_cases a : q n = true
    · rw [if_pos a, if_pos (h n a)]
      omega
    · rw [if_neg a]
      omega
theorem cn_lt {q r : Nat → Bool} {t : Nat} (h : ∀ j, q j = true → r j = true) (hq : ¬ q t = true) (hr : r t = true) : ∀ n, t < n → cn q n + 1 ≤ cn r n
  | 0 => fun h0 => absurd h0 (Nat.not_lt_zero _)
  | n + 1 => fun h0 => by
    unfold cn
    by_cases a : t = n
    · have h1 := cn_mono h n
      rw [← a, if_neg hq, if_pos hr]
      rw [a]
      omega
    · have h1 := cn_lt h hq hr n (by first | (and_intros <;> first | with_reducible assumption | (refine Int.le_antisymm ?_ ?_ <;> omega) | omega) | omega)
      by_cases b : q n = true
      · rw [if_pos b, if_pos (h n b)]
        omega
      · rw [if_neg b]
        omega
def set3 (co aw fe go cy : Nat → Int32) (g n : Int) : Prop := 0 ≤ cv co n ∧ cv co n ≤ 400 * cv aw n ∧ 1 ≤ cv aw n ∧ cv aw n ≤ ((cn (fun j => lxb co aw j n.toNat) 480 : Nat) : Int) ∧ n < 80 * (g + 1) ∧ opn cy (n % 80) ∧ ∃ w : Int, 0 ≤ w ∧ w < 16 ∧ par co aw fe go n w
def LBn (co aw fe go cy : Nat → Int32) (g n : Int) : Prop := (cv co n = 268435456 ∧ cv aw n = 268435456) ∨ (cv co n = 0 ∧ cv aw n = 0) ∨ set3 co aw fe go cy g n
def LB (co aw fe go cy : Nat → Int32) (g : Int) : Prop := ∀ n : Int, 0 ≤ n → n < 480 → LBn co aw fe go cy g n
def mu (co aw : Nat → Int32) : Nat → Int
  | 0 => 0
  | n + 1 => mu co aw n + ((co n).toInt * 268435457 + (aw n).toInt)
theorem mu_same {co aw co2 aw2 : Nat → Int32} {a : Nat} (h1 : ∀ j, j ≠ a → co2 j = co j) (h2 : ∀ j, j ≠ a → aw2 j = aw j) : ∀ n, n ≤ a → mu co2 aw2 n = mu co aw n
  | 0 => fun _ => rfl
  | n + 1 => fun h => by
    unfold mu
    rw [mu_same h1 h2 n (by first | (and_intros <;> first | with_reducible assumption | (refine Int.le_antisymm ?_ ?_ <;> omega) | omega) | omega), h1 n (by first | (and_intros <;> first | with_reducible assumption | (refine Int.le_antisymm ?_ ?_ <;> omega) | omega) | omega), h2 n (by first | (and_intros <;> first | with_reducible assumption | (refine Int.le_antisymm ?_ ?_ <;> omega) | omega) | omega)]
theorem mu_lt {co aw co2 aw2 : Nat → Int32} {a : Nat} (h1 : ∀ j, j ≠ a → co2 j = co j) (h2 : ∀ j, j ≠ a → aw2 j = aw j) (h : (co2 a).toInt * 268435457 + (aw2 a).toInt < (co a).toInt * 268435457 + (aw a).toInt) : ∀ n, a < n → mu co2 aw2 n < mu co aw n
  | 0 => fun h0 => absurd h0 (Nat.not_lt_zero _)
  | n + 1 => fun h0 => by
    unfold mu
    by_cases q : a = n
    · rw [mu_same h1 h2 n (by first | (and_intros <;> first | with_reducible assumption | (refine Int.le_antisymm ?_ ?_ <;> omega) | omega) | omega), ← q]
      omega
    · have h3 := mu_lt h1 h2 h n (by first | (and_intros <;> first | with_reducible assumption | (refine Int.le_antisymm ?_ ?_ <;> omega) | omega) | omega)
      rw [h1 n (fun e => q e.symm), h2 n (fun e => q e.symm)]
      omega
theorem mu_nn {co aw : Nat → Int32} (h : ∀ j, j < 480 → 0 ≤ (co j).toInt ∧ 0 ≤ (aw j).toInt) : ∀ n, n ≤ 480 → 0 ≤ mu co aw n
  | 0 => fun _ => Int.le_refl 0
  | n + 1 => fun h0 => by
    unfold mu
    have h1 := mu_nn h n (by first | (and_intros <;> first | with_reducible assumption | (refine Int.le_antisymm ?_ ?_ <;> omega) | omega) | omega)
    have h2 := h n (by first | (and_intros <;> first | with_reducible assumption | (refine Int.le_antisymm ?_ ?_ <;> omega) | omega) | omega)
    omega
theorem LBn_nn {co aw fe go cy : Nat → Int32} {g n : Int} (h : LBn co aw fe go cy g n) : 0 ≤ cv co n ∧ 0 ≤ cv aw n ∧ cv aw n ≤ 268435456 ∧ (cv aw n < 268435456 → cv co n < 268435456 ∧ cv aw n ≤ 480) ∧ (cv co n < 268435456 → cv aw n < 268435456 ∧ cv co n ≤ 400 * cv aw n) := by
  rcases h with h | h | ⟨h1, h2, h3, h4, -⟩
  · omega
  · omega
  · have h5 := cn_le (q := fun j => lxb co aw j n.toNat) 480
    omega
theorem LB_mu {co aw fe go cy : Nat → Int32} {g : Int} (h : LB co aw fe go cy g) : 0 ≤ mu co aw 480 := by
  refine mu_nn (fun j hj => ?_) 480 (Nat.le_refl _)
  have h1 := LBn_nn (h (j : Int) (by first | (and_intros <;> first | with_reducible assumption | (refine Int.le_antisymm ?_ ?_ <;> omega) | omega) | omega) (by first | (and_intros <;> first | with_reducible assumption | (refine Int.le_antisymm ?_ ?_ <;> omega) | omega) | omega))
  exact ⟨h1.1, h1.2.1⟩
theorem LB_upd {co aw fe go cy : Nat → Int32} {g n w : Int} {p s : Int32} (h : LB co aw fe go cy g) (hg : 0 ≤ g ∧ g ≤ 5) (hfe : rng fe 640 0 400) (hgo : rng go 640 (-1) 79) (hn : 0 ≤ n ∧ n < 80 * (g + 1)) (ho : opn cy (n % 80)) (ha : ¬ cv aw n = 0) (hw : 0 ≤ w ∧ w < 16) (hi : bet co aw fe go n w) (hp : p.toInt = cv co (th go n w) + fc fe n w) (hs : s.toInt = cv aw (th go n w) + 1) : LB (upd co n.toNat p) (upd aw n.toNat s) fe go cy g ∧ mu (upd co n.toNat p) (upd aw n.toNat s) 480 < mu co aw 480 := by
  obtain ⟨i1, i2, i3, i4⟩ := hi
  have hgt : gt go (n % 80) w ≤ 79 := (hgo _ (by first | (and_intros <;> first | with_reducible assumption | (refine Int.le_antisymm ?_ ?_ <;> omega) | omega) | omega)).2
  have ht : th go n w < 480 := by
    rcases Classical.em (w < 8) with q | q
    · rw [th_lo q]; omega
    · rw [th_hi q]; omega
  have hfc : 0 ≤ fc fe n w ∧ fc fe n w ≤ 400 := by
    rcases Classical.em (w < 8) with q | q
    · rw [fc_lo q]; exact hfe _ (by first | (and_intros <;> first | with_reducible assumption | (refine Int.le_antisymm ?_ ?_ <;> omega) | omega) | omega)
    · rw [fc_hi q]; omega
  obtain ⟨t, et⟩ : ∃ t, t = th go n w := ⟨_, rfl⟩
  rw [← et] at i2 i3 i4 ht hp hs
  have hT := h t i2 ht
  have hN := LBn_nn (h n hn.1 (by first | (and_intros <;> first | with_reducible assumption | (refine Int.le_antisymm ?_ ?_ <;> omega) | omega) | omega))
  have hT1 := LBn_nn hT
  have hT2 : cv aw t ≤ ((cn (fun j => lxb co aw j t.toNat) 480 : Nat) : Int) := by
    rcases hT with q | q | q
    · omega
    · omega
    · exact q.2.2.2.1
  have htn : ¬ t = n := by
    intro q
    rw [q] at i4
    omega
  have htN : ¬ t.toNat = n.toNat := by omega
  have hT3 := cn_le (q := fun j => lxb co aw j t.toNat) 480
  have c1 : ∀ j : Nat, j ≠ n.toNat → upd co n.toNat p j = co j := fun j q => if_neg q
  have c2 : ∀ j : Nat, j ≠ n.toNat → upd aw n.toNat s j = aw j := fun j q => if_neg q
  have d1 : upd co n.toNat p n.toNat = p := if_pos rfl
  have d2 : upd aw n.toNat s n.toNat = s := if_pos rfl
  have v1 : ∀ m : Int, 0 ≤ m → ¬ m = n → cv (upd co n.toNat p) m = cv co m := fun m hm q => by unfold cv; rw [c1 _ (by first | (and_intros <;> first | with_reducible assumption | (refine Int.le_antisymm ?_ ?_ <;> omega) | omega) | omega)]
  have v2 : ∀ m : Int, 0 ≤ m → ¬ m = n → cv (upd aw n.toNat s) m = cv aw m := fun m hm q => by unfold cv; rw [c2 _ (by first | (and_intros <;> first | with_reducible assumption | (refine Int.le_antisymm ?_ ?_ <;> omega) | omega) | omega)]
  have w1 : cv (upd co n.toNat p) n = p.toInt := by unfold cv; rw [d1]
  have w2 : cv (upd aw n.toNat s) n = s.toInt := by unfold cv; rw [d2]
  have u1 : cv co n = (co n.toNat).toInt := rfl
  have u2 : cv aw n = (aw n.toNat).toInt := rfl
  have u3 : cv co t = (co t.toNat).toInt := rfl
  have u4 : cv aw t = (aw t.toNat).toInt := rfl
  have lm : ∀ j b : Nat, b ≠ n.toNat → lxb co aw j b = true → lxb (upd co n.toNat p) (upd aw n.toNat s) j b = true := by
    intro j b hb hj
    have hj2 := of_decide_eq_true hj
    refine decide_eq_true ?_
    rw [c1 b hb, c2 b hb]
    by_cases q : j = n.toNat
    · rw [q, d1, d2]
      rw [q] at hj2
      omega
    · rw [c1 j q, c2 j q]
      exact hj2
  refine ⟨fun m hm0 hm1 => ?_, mu_lt c1 c2 ?_ 480 (by first | (and_intros <;> first | with_reducible assumption | (refine Int.le_antisymm ?_ ?_ <;> omega) | omega) | omega)⟩
  · by_cases q : m = n
    · rw [q]
      refine Or.inr (Or.inr ⟨by rw [w1]; omega, by rw [w1, w2]; omega, by rw [w2]; omega, ?_, hn.2, ho, w, hw.1, hw.2, i1, ?_⟩)
      · rw [w2, hs]
        have h9 : cn (fun j => lxb co aw j t.toNat) 480 + 1 ≤ cn (fun j => lxb (upd co n.toNat p) (upd aw n.toNat s) j n.toNat) 480 := by
          refine cn_lt (t := t.toNat) (fun j hj => ?_) (fun hj => ?_) ?_ 480 (by first | (and_intros <;> first | with_reducible assumption | (refine Int.le_antisymm ?_ ?_ <;> omega) | omega) | omega)
          · have hj2 := of_decide_eq_true hj
            refine decide_eq_true ?_
            rw [d1, d2]
            by_cases q2 : j = n.toNat
            · rw [q2] at hj2
              omega
            · rw [c1 j q2, c2 j q2]
              omega
          · have hj2 := of_decide_eq_true hj
            omega
          · refine decide_eq_true ?_
            rw [d1, d2, c1 _ htN, c2 _ htN]
            omega
        omega
      · rw [← et, v1 t i2 htn, v2 t i2 htn, w1, w2]
        refine ⟨i2, i3, ?_⟩
        omega
    · rcases h m hm0 hm1 with a | a | ⟨a1, a2, a3, a4, a5, a6, w', b1, b2, b3, b4, b5, b6⟩
      · refine Or.inl ?_
        rw [v1 m hm0 q, v2 m hm0 q]
        exact a
      · refine Or.inr (Or.inl ?_)
        rw [v1 m hm0 q, v2 m hm0 q]
        exact a
      · refine Or.inr (Or.inr ⟨by rw [v1 m hm0 q]; exact a1, by rw [v1 m hm0 q, v2 m hm0 q]; exact a2, by rw [v2 m hm0 q]; exact a3, ?_, a5, a6, w', b1, b2, b3, b4, ?_, ?_⟩)
        · rw [v2 m hm0 q]
          have h9 : cn (fun j => lxb co aw j m.toNat) 480 ≤ cn (fun j => lxb (upd co n.toNat p) (upd aw n.toNat s) j m.toNat) 480 := cn_mono (fun j hj => lm j m.toNat (by first | (and_intros <;> first | with_reducible assumption | (refine Int.le_antisymm ?_ ?_ <;> omega) | omega) | omega) hj) 480
          omega
        · by_cases q2 : th go m w' = n
          · rw [q2, w1]
            omega
          · rw [v1 _ b4 q2]
            exact b5
        · rw [v1 m hm0 q, v2 m hm0 q]
          by_cases q2 : th go m w' = n
          · rw [q2, w1, w2]
            rw [q2] at b6
            omega
          · rw [v1 _ b4 q2, v2 _ b4 q2]
            exact b6
  · rw [d1, d2]
    omega
/-- no step betters a label, up to the step w of the state n -/
def FXr (fe go cy co aw : Nat → Int32) (m v : Int) : Prop := ∀ n w : Int, 0 ≤ n → 0 ≤ w → w < 16 → (n < m ∨ (n = m ∧ w < v)) → opn cy (n % 80) → ¬ cv aw n = 0 → ¬ bet co aw fe go n w
theorem FXr_0 {fe go cy co aw : Nat → Int32} : FXr fe go cy co aw 0 0 := fun n w h1 h2 _ h4 => by omega
theorem FXr_w {fe go cy co aw : Nat → Int32} {m v v2 : Int} (h : FXr fe go cy co aw m v) (hv : v2 = v + 1) (hb : opn cy (m % 80) → ¬ cv aw m = 0 → ¬ bet co aw fe go m v) : FXr fe go cy co aw m v2 := by
  intro n w h1 h2 h3 h4 h5 h6
  by_cases q : n = m ∧ w = v
  · rw [q.1] at h5 h6 ⊢
    rw [q.2]
    exact hb h5 h6
  · exact h n w h1 h2 h3 (by first | (and_intros <;> first | with_reducible assumption | (refine Int.le_antisymm ?_ ?_ <;> omega) | omega) | omega) h5 h6
theorem FXr_n {fe go cy co aw : Nat → Int32} {m m2 v : Int} (h : FXr fe go cy co aw m v) (hm : m2 = m + 1) (hv : 16 ≤ v ∨ ¬ opn cy (m % 80) ∨ cv aw m = 0) : FXr fe go cy co aw m2 0 := by
  intro n w h1 h2 h3 h4 h5 h6
  by_cases q : n = m
  · rw [q] at h5 h6 h1 ⊢
    rcases hv with a | a | a
    · exact h m w h1 h2 h3 (by first | (and_intros <;> first | with_reducible assumption | (refine Int.le_antisymm ?_ ?_ <;> omega) | omega) | omega) h5 h6
    · exact absurd h5 a
    · exact absurd a h6
  · exact h n w h1 h2 h3 (by first | (and_intros <;> first | with_reducible assumption | (refine Int.le_antisymm ?_ ?_ <;> omega) | omega) | omega) h5 h6
/-- what relax knows of itself on its way -/
def RX (fe go cy co aw co0 aw0 : Nat → Int32) (r : Int32) (m v : Int) : Prop := (r = 0 ∧ FXr fe go cy co aw m v ∧ mu co aw 480 ≤ mu co0 aw0 480) ∨ (r = 1 ∧ mu co aw 480 < mu co0 aw0 480)
theorem RX_0 {fe go cy co aw : Nat → Int32} : RX fe go cy co aw co aw 0 0 0 := Or.inl ⟨rfl, FXr_0, Int.le_refl _⟩
theorem RX_w {fe go cy co aw co0 aw0 : Nat → Int32} {r : Int32} {m v v2 : Int} (h : RX fe go cy co aw co0 aw0 r m v) (hv : v2 = v + 1) (hb : opn cy (m % 80) → ¬ cv aw m = 0 → ¬ bet co aw fe go m v) : RX fe go cy co aw co0 aw0 r m v2 := by
  rcases h with ⟨h1, h2, h3⟩ | h
  · exact Or.inl ⟨h1, FXr_w h2 hv hb, h3⟩
  · exact Or.inr h
theorem RX_n {fe go cy co aw co0 aw0 : Nat → Int32} {r : Int32} {m m2 v : Int} (h : RX fe go cy co aw co0 aw0 r m v) (hm : m2 = m + 1) (hv : 16 ≤ v ∨ ¬ opn cy (m % 80) ∨ cv aw m = 0) : RX fe go cy co aw co0 aw0 r m2 0 := by
  rcases h with ⟨h1, h2, h3⟩ | h
  · exact Or.inl ⟨h1, FXr_n h2 hm hv, h3⟩
  · exact Or.inr h
theorem RX_u {fe go cy co aw co2 aw2 co0 aw0 : Nat → Int32} {r : Int32} {m v v2 : Int} (h : RX fe go cy co aw co0 aw0 r m v) (hm : mu co2 aw2 480 < mu co aw 480) : RX fe go cy co2 aw2 co0 aw0 1 m v2 := by
  rcases h with ⟨h1, h2, h3⟩ | ⟨h1, h2⟩
  · exact Or.inr ⟨rfl, by omega⟩
  · exact Or.inr ⟨rfl, by omega⟩
theorem RX_01 {fe go cy co aw co0 aw0 : Nat → Int32} {r : Int32} {m v : Int} (h : RX fe go cy co aw co0 aw0 r m v) : r = 0 ∨ r = 1 := by
  rcases h with ⟨h1, -⟩ | ⟨h1, -⟩
  · exact Or.inl h1
  · exact Or.inr h1
theorem RX_e0 {fe go cy co aw co0 aw0 : Nat → Int32} {m v n : Int} (h : RX fe go cy co aw co0 aw0 0 m v) (hm : m = n) (hv : v = 0) : FXr fe go cy co aw n 0 ∧ mu co aw 480 ≤ mu co0 aw0 480 := by
  rcases h with ⟨-, h2, h3⟩ | ⟨h1, -⟩
  · rw [hm, hv] at h2
    exact ⟨h2, h3⟩
  · exact absurd h1 (by decide)
theorem RX_e1 {fe go cy co aw co0 aw0 : Nat → Int32} {m v : Int} (h : RX fe go cy co aw co0 aw0 1 m v) : mu co aw 480 < mu co0 aw0 480 := by
  rcases h with ⟨h1, -⟩ | ⟨-, h1⟩
  · exact absurd h1 (by decide)
  · exact h1
/-- what stands there ahead of the first turn -/
def LB0 (co aw : Nat → Int32) (m : Int) : Prop := ∀ n : Int, 0 ≤ n → n < m → (cv co n = 268435456 ∧ cv aw n = 268435456) ∨ (cv co n = 0 ∧ cv aw n = 0)
theorem LB0_ext {co aw : Nat → Int32} {i p s : Int32} {m m2 : Int} (h : LB0 co aw m) (h0 : 0 ≤ i.toInt) (hi : i.toInt = m) (hm : m2 = m + 1) (hv : (p.toInt = 268435456 ∧ s.toInt = 268435456) ∨ (p.toInt = 0 ∧ s.toInt = 0)) : LB0 (upd co i.toNatClampNeg p) (upd aw i.toNatClampNeg s) m2 := by
  have h3 : i.toNatClampNeg = i.toInt.toNat := rfl
  intro n h1 h2
  unfold cv
  by_cases q : n = m
  · rw [show upd co i.toNatClampNeg p n.toNat = p from if_pos (by first | (and_intros <;> first | with_reducible assumption | (refine Int.le_antisymm ?_ ?_ <;> omega) | omega) | omega), show upd aw i.toNatClampNeg s n.toNat = s from if_pos (by first | (and_intros <;> first | with_reducible assumption | (refine Int.le_antisymm ?_ ?_ <;> omega) | omega) | omega)]
    exact hv
  · rw [show upd co i.toNatClampNeg p n.toNat = co n.toNat from if_neg (by first | (and_intros <;> first | with_reducible assumption | (refine Int.le_antisymm ?_ ?_ <;> omega) | omega) | omega), show upd aw i.toNatClampNeg s n.toNat = aw n.toNat from if_neg (by first | (and_intros <;> first | with_reducible assumption | (refine Int.le_antisymm ?_ ?_ <;> omega) | omega) | omega)]
    exact h n h1 (by first | (and_intros <;> first | with_reducible assumption | (refine Int.le_antisymm ?_ ?_ <;> omega) | omega) | omega)
theorem LB_init {co aw fe go cy : Nat → Int32} {g m : Int} (h : LB0 co aw m) (hm : 480 ≤ m) : LB co aw fe go cy g := by
  intro n h1 h2
  rcases h n h1 (by first | (and_intros <;> first | with_reducible assumption | (refine Int.le_antisymm ?_ ?_ <;> omega) | omega) | omega) with q | q
  · exact Or.inl q
  · exact Or.inr (Or.inl q)
/-- where nothing betters, some step makes the label -/
theorem best_ex {co aw fe go cy : Nat → Int32} {g n : Int} (h : LB co aw fe go cy g) (hf : FXr fe go cy co aw (80 * (g + 1)) 0) (h0 : 0 ≤ n ∧ n < 480) (hc : cv co n < 268435456) (ha : 0 < cv aw n) : ∃ w : Int, 0 ≤ w ∧ w < 16 ∧ mtc co aw fe go n w := by
  rcases h n h0.1 h0.2 with q | q | ⟨a1, a2, a3, a4, a5, a6, w, b1, b2, b3, b4, b5, b6⟩
  · omega
  · omega
  · have h1 := hf n w h0.1 b1 b2 (Or.inl a5) a6 (by first | (and_intros <;> first | with_reducible assumption | (refine Int.le_antisymm ?_ ?_ <;> omega) | omega) | omega)
    refine ⟨w, b1, b2, b3, b4, b5, ?_⟩
    rcases Classical.em (cv co (th go n w) + fc fe n w = cv co n ∧ cv aw (th go n w) + 1 = cv aw n) with q | q
    · exact q
    · exact absurd ⟨b3, b4, b5, by omega⟩ h1
/-- no step ahead of v makes the label -/
def NB (co aw fe go : Nat → Int32) (n v : Int) : Prop := ∀ w : Int, 0 ≤ w → w < v → ¬ mtc co aw fe go n w
theorem NB_0 {co aw fe go : Nat → Int32} {n v : Int} (hv : v = 0) : NB co aw fe go n v := fun w h1 h2 => by omega
theorem NB_s {co aw fe go : Nat → Int32} {n v v2 : Int} (h : NB co aw fe go n v) (hv : v2 = v + 1) (hm : ¬ mtc co aw fe go n v) : NB co aw fe go n v2 := by
  intro w h1 h2
  by_cases q : w = v
  · rw [q]; exact hm
  · exact h w h1 (by first | (and_intros <;> first | with_reducible assumption | (refine Int.le_antisymm ?_ ?_ <;> omega) | omega) | omega)
theorem NB_no {co aw fe go : Nat → Int32} {n v : Int} (h : NB co aw fe go n v) (hv : 16 ≤ v) (hx : ∃ u : Int, 0 ≤ u ∧ u < 16 ∧ mtc co aw fe go n u) : False := by
  obtain ⟨u, q1, q2, q3⟩ := hx
  exact h u q1 (by first | (and_intros <;> first | with_reducible assumption | (refine Int.le_antisymm ?_ ?_ <;> omega) | omega) | omega) q3
theorem mtc_go {co aw fe go : Nat → Int32} {n w : Int} (h : mtc co aw fe go n w) (hgo : rng go 640 (-1) 79) (hn : 0 ≤ n ∧ n < 480) (hw : 0 ≤ w ∧ w < 16) : 0 ≤ gt go (n % 80) w ∧ gt go (n % 80) w ≤ 79 ∧ 0 ≤ th go n w ∧ th go n w < 480 ∧ th go n w = gt go (n % 80) w + (n - n % 80) - (if w < 8 then 0 else 80) ∧ cv co (th go n w) < 268435456 ∧ cv aw (th go n w) + 1 = cv aw n := by
  obtain ⟨i1, i2, i3, i4, i5⟩ := h
  have hgt : gt go (n % 80) w ≤ 79 := (hgo _ (by first | (and_intros <;> first | with_reducible assumption | (refine Int.le_antisymm ?_ ?_ <;> omega) | omega) | omega)).2
  have e : th go n w = gt go (n % 80) w + (n - n % 80) - (if w < 8 then 0 else 80) := rfl
  refine ⟨i1, hgt, i2, ?_, e, i3, i5⟩
  rw [e]
  split <;> omega
theorem mtc_lo {co aw fe go : Nat → Int32} {n w : Int} (h : mtc co aw fe go n w) (hgo : rng go 640 (-1) 79) (hn : 0 ≤ n ∧ n < 80) (hw : 0 ≤ w ∧ w < 16) : w < 8 ∧ th go n w = gt go (n % 80) w ∧ 0 ≤ gt go (n % 80) w ∧ gt go (n % 80) w ≤ 79 ∧ cv co (th go n w) < 268435456 ∧ cv aw (th go n w) + 1 = cv aw n := by
  obtain ⟨i1, i2, i3, i4, i5, i6, i7⟩ := mtc_go h hgo (by first | (and_intros <;> first | with_reducible assumption | (refine Int.le_antisymm ?_ ?_ <;> omega) | omega) | omega) hw
  by_cases q : w < 8
  · rw [if_pos q] at i5
    exact ⟨q, by omega, i1, i2, i6, i7⟩
  · rw [if_neg q] at i5
    omega
