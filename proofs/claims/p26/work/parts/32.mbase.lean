def prd (P : Nat → Int → Prop) (n : Nat) (f : Nat → Int32) : Prop := ∀ j : Nat, j < n → P j (f j).toInt
/-- what may stand at a place of the model's city -/
def cyK (j : Nat) (v : Int) : Prop := (j = 0 → 0 ≤ v ∧ v ≤ 10) ∧ (j = 1 → 0 ≤ v ∧ v ≤ 8) ∧ (j = 2 → 0 ≤ v ∧ v ≤ 6) ∧ (j = 3 → 0 ≤ v ∧ v ≤ 6) ∧ (4 ≤ j → j < 84 → -3 ≤ v ∧ v ≤ 5) ∧ (84 ≤ j → j < 90 → 0 ≤ v ∧ v ≤ 99) ∧ (96 ≤ j → j < 120 → (j % 4 = 0 ∨ j % 4 = 1) → 0 ≤ v ∧ v < 80)
def kpK (j : Nat) (v : Int) : Prop := cyK (j % 192) v
theorem cyK_0 (j : Nat) : cyK j 0 := by
  refine ⟨?_, ?_, ?_, ?_, ?_, ?_, ?_⟩ <;> intros <;> omega
theorem prd_zero {P : Nat → Int → Prop} {n : Nat} (h : ∀ j, P j 0) : prd P n (fun _ => 0) := fun j _ => h j
theorem prd_get {P : Nat → Int → Prop} {n : Nat} {f : Nat → Int32} {i x : Int32} (h : prd P n f) (h0 : 0 ≤ i.toInt) (h1 : i.toInt < n) (e : x = f i.toNatClampNeg) : P i.toNatClampNeg x.toInt := by
  have h3 : i.toNatClampNeg = i.toInt.toNat := rfl
  rw [e]
  exact h _ (by first | (and_intros <;> first | with_reducible assumption | (refine Int.le_antisymm ?_ ?_ <;> omega) | omega) | omega)
theorem prd_upd {P : Nat → Int → Prop} {n k : Nat} {f : Nat → Int32} {v : Int32} (h : prd P n f) (hv : P k v.toInt) : prd P n (upd f k v) := by
  intro j hj
  show P j (if j = k then v else f j).toInt
  split
  · next q => rw [q]; exact hv
  · exact h j hj
theorem ld_eq {f : Nat → Int32} {x x0 i i0 : Int32} (e : x = f i.toNatClampNeg) (e0 : x0 = f i0.toNatClampNeg) : ¬ i.toInt = i0.toInt ∨ x.toInt = x0.toInt := by
  rcases Classical.em (i.toInt = i0.toInt) with h | h
  · refine Or.inr ?_
    rw [e, e0, Int32.toInt_inj.mp h]
  · exact Or.inl h
theorem upd_off {f : Nat → Int32} {i v : Int32} {k : Nat} (h0 : 0 ≤ i.toInt) (h : ¬ i.toInt = k) : (upd f i.toNatClampNeg v) k = f k := by
  have h3 : i.toNatClampNeg = i.toInt.toNat := rfl
  exact if_neg (by first | (and_intros <;> first | with_reducible assumption | (refine Int.le_antisymm ?_ ?_ <;> omega) | omega) | omega)
theorem upd_on {f : Nat → Int32} {i v : Int32} {k : Nat} (h : i.toInt = k) : (upd f i.toNatClampNeg v) k = v := by
  have h3 : i.toNatClampNeg = i.toInt.toNat := rfl
  exact if_pos (by first | (and_intros <;> first | with_reducible assumption | (refine Int.le_antisymm ?_ ?_ <;> omega) | omega) | omega)
theorem l_add2 {a b : Int32} : (a.toInt64 + b.toInt64).toInt = a.toInt + b.toInt := by
  have h1 := Int32.toInt_lt a
  have h2 := Int32.le_toInt a
  have h3 := Int32.toInt_lt b
  have h4 := Int32.le_toInt b
  rw [Int64.toInt_add, Int32.toInt_toInt64, Int32.toInt_toInt64, Int.bmod_def]
  split <;> omega
theorem cyg_W {f : Nat → Int32} {i x : Int32} (h : prd cyK 192 f) (hi : i.toInt = 0) (e : x = f i.toNatClampNeg) : 0 ≤ x.toInt ∧ x.toInt ≤ 10 := by
  have h3 : i.toNatClampNeg = i.toInt.toNat := rfl
  exact (prd_get h (by first | (and_intros <;> first | with_reducible assumption | (refine Int.le_antisymm ?_ ?_ <;> omega) | omega) | omega) (by first | (and_intros <;> first | with_reducible assumption | (refine Int.le_antisymm ?_ ?_ <;> omega) | omega) | omega) e).1 (by first | (and_intros <;> first | with_reducible assumption | (refine Int.le_antisymm ?_ ?_ <;> omega) | omega) | omega)
theorem cys_W {f : Nat → Int32} {i v : Int32} (h : prd cyK 192 f) (hi : i.toInt = 0) (hv : 0 ≤ v.toInt ∧ v.toInt ≤ 10) : prd cyK 192 (upd f i.toNatClampNeg v) := by
  have h3 : i.toNatClampNeg = i.toInt.toNat := rfl
  refine prd_upd h ?_
  rw [h3]
  refine ⟨?_, ?_, ?_, ?_, ?_, ?_, ?_⟩ <;> intros <;> omega
theorem cyg_H {f : Nat → Int32} {i x : Int32} (h : prd cyK 192 f) (hi : i.toInt = 1) (e : x = f i.toNatClampNeg) : 0 ≤ x.toInt ∧ x.toInt ≤ 8 := by
  have h3 : i.toNatClampNeg = i.toInt.toNat := rfl
  exact (prd_get h (by first | (and_intros <;> first | with_reducible assumption | (refine Int.le_antisymm ?_ ?_ <;> omega) | omega) | omega) (by first | (and_intros <;> first | with_reducible assumption | (refine Int.le_antisymm ?_ ?_ <;> omega) | omega) | omega) e).2.1 (by first | (and_intros <;> first | with_reducible assumption | (refine Int.le_antisymm ?_ ?_ <;> omega) | omega) | omega)
theorem cys_H {f : Nat → Int32} {i v : Int32} (h : prd cyK 192 f) (hi : i.toInt = 1) (hv : 0 ≤ v.toInt ∧ v.toInt ≤ 8) : prd cyK 192 (upd f i.toNatClampNeg v) := by
  have h3 : i.toNatClampNeg = i.toInt.toNat := rfl
  refine prd_upd h ?_
  rw [h3]
  refine ⟨?_, ?_, ?_, ?_, ?_, ?_, ?_⟩ <;> intros <;> omega
theorem cyg_T {f : Nat → Int32} {i x : Int32} (h : prd cyK 192 f) (hi : i.toInt = 2) (e : x = f i.toNatClampNeg) : 0 ≤ x.toInt ∧ x.toInt ≤ 6 := by
  have h3 : i.toNatClampNeg = i.toInt.toNat := rfl
  exact (prd_get h (by first | (and_intros <;> first | with_reducible assumption | (refine Int.le_antisymm ?_ ?_ <;> omega) | omega) | omega) (by first | (and_intros <;> first | with_reducible assumption | (refine Int.le_antisymm ?_ ?_ <;> omega) | omega) | omega) e).2.2.1 (by first | (and_intros <;> first | with_reducible assumption | (refine Int.le_antisymm ?_ ?_ <;> omega) | omega) | omega)
theorem cys_T {f : Nat → Int32} {i v : Int32} (h : prd cyK 192 f) (hi : i.toInt = 2) (hv : 0 ≤ v.toInt ∧ v.toInt ≤ 6) : prd cyK 192 (upd f i.toNatClampNeg v) := by
  have h3 : i.toNatClampNeg = i.toInt.toNat := rfl
  refine prd_upd h ?_
  rw [h3]
  refine ⟨?_, ?_, ?_, ?_, ?_, ?_, ?_⟩ <;> intros <;> omega
theorem cyg_N {f : Nat → Int32} {i x : Int32} (h : prd cyK 192 f) (hi : i.toInt = 3) (e : x = f i.toNatClampNeg) : 0 ≤ x.toInt ∧ x.toInt ≤ 6 := by
  have h3 : i.toNatClampNeg = i.toInt.toNat := rfl
  exact (prd_get h (by first | (and_intros <;> first | with_reducible assumption | (refine Int.le_antisymm ?_ ?_ <;> omega) | omega) | omega) (by first | (and_intros <;> first | with_reducible assumption | (refine Int.le_antisymm ?_ ?_ <;> omega) | omega) | omega) e).2.2.2.1 (by first | (and_intros <;> first | with_reducible assumption | (refine Int.le_antisymm ?_ ?_ <;> omega) | omega) | omega)
theorem cys_N {f : Nat → Int32} {i v : Int32} (h : prd cyK 192 f) (hi : i.toInt = 3) (hv : 0 ≤ v.toInt ∧ v.toInt ≤ 6) : prd cyK 192 (upd f i.toNatClampNeg v) := by
  have h3 : i.toNatClampNeg = i.toInt.toNat := rfl
  refine prd_upd h ?_
  rw [h3]
  refine ⟨?_, ?_, ?_, ?_, ?_, ?_, ?_⟩ <;> intros <;> omega
theorem cyg_A {f : Nat → Int32} {i x : Int32} (h : prd cyK 192 f) (hi : 4 ≤ i.toInt ∧ i.toInt < 84) (e : x = f i.toNatClampNeg) : -3 ≤ x.toInt ∧ x.toInt ≤ 5 := by
  have h3 : i.toNatClampNeg = i.toInt.toNat := rfl
  exact (prd_get h (by first | (and_intros <;> first | with_reducible assumption | (refine Int.le_antisymm ?_ ?_ <;> omega) | omega) | omega) (by first | (and_intros <;> first | with_reducible assumption | (refine Int.le_antisymm ?_ ?_ <;> omega) | omega) | omega) e).2.2.2.2.1 (by first | (and_intros <;> first | with_reducible assumption | (refine Int.le_antisymm ?_ ?_ <;> omega) | omega) | omega) (by first | (and_intros <;> first | with_reducible assumption | (refine Int.le_antisymm ?_ ?_ <;> omega) | omega) | omega)
theorem cys_A {f : Nat → Int32} {i v : Int32} (h : prd cyK 192 f) (hi : 4 ≤ i.toInt ∧ i.toInt < 84) (hv : -3 ≤ v.toInt ∧ v.toInt ≤ 5) : prd cyK 192 (upd f i.toNatClampNeg v) := by
  have h3 : i.toNatClampNeg = i.toInt.toNat := rfl
  refine prd_upd h ?_
  rw [h3]
  refine ⟨?_, ?_, ?_, ?_, ?_, ?_, ?_⟩ <;> intros <;> omega
theorem cyg_P {f : Nat → Int32} {i x : Int32} (h : prd cyK 192 f) (hi : 84 ≤ i.toInt ∧ i.toInt < 90) (e : x = f i.toNatClampNeg) : 0 ≤ x.toInt ∧ x.toInt ≤ 99 := by
  have h3 : i.toNatClampNeg = i.toInt.toNat := rfl
  exact (prd_get h (by first | (and_intros <;> first | with_reducible assumption | (refine Int.le_antisymm ?_ ?_ <;> omega) | omega) | omega) (by first | (and_intros <;> first | with_reducible assumption | (refine Int.le_antisymm ?_ ?_ <;> omega) | omega) | omega) e).2.2.2.2.2.1 (by first | (and_intros <;> first | with_reducible assumption | (refine Int.le_antisymm ?_ ?_ <;> omega) | omega) | omega) (by first | (and_intros <;> first | with_reducible assumption | (refine Int.le_antisymm ?_ ?_ <;> omega) | omega) | omega)
theorem cys_P {f : Nat → Int32} {i v : Int32} (h : prd cyK 192 f) (hi : 84 ≤ i.toInt ∧ i.toInt < 90) (hv : 0 ≤ v.toInt ∧ v.toInt ≤ 99) : prd cyK 192 (upd f i.toNatClampNeg v) := by
  have h3 : i.toNatClampNeg = i.toInt.toNat := rfl
  refine prd_upd h ?_
  rw [h3]
  refine ⟨?_, ?_, ?_, ?_, ?_, ?_, ?_⟩ <;> intros <;> omega
theorem cys_O {f : Nat → Int32} {i v : Int32} (h : prd cyK 192 f) (hi : 96 ≤ i.toInt ∧ i.toInt < 120) (hv : (i.toInt % 4 = 0 ∨ i.toInt % 4 = 1) → 0 ≤ v.toInt ∧ v.toInt < 80) : prd cyK 192 (upd f i.toNatClampNeg v) := by
  have h3 : i.toNatClampNeg = i.toInt.toNat := rfl
  refine prd_upd h ?_
  rw [h3]
  refine ⟨?_, ?_, ?_, ?_, ?_, ?_, ?_⟩ <;> intros <;> omega
theorem cys_F {f : Nat → Int32} {i v : Int32} (h : prd cyK 192 f) (hi : (90 ≤ i.toInt ∧ i.toInt < 96) ∨ (120 ≤ i.toInt ∧ i.toInt < 192)) : prd cyK 192 (upd f i.toNatClampNeg v) := by
  have h3 : i.toNatClampNeg = i.toInt.toNat := rfl
  refine prd_upd h ?_
  rw [h3]
  refine ⟨?_, ?_, ?_, ?_, ?_, ?_, ?_⟩ <;> intros <;> omega
/-- how far it is to the city's edge, along a way -/
def fsM (wy a : Int) : Nat := if a < 0 then 0 else if 2 ≤ wy ∧ wy ≤ 5 then (80 - a).toNat else (a + 1).toNat
theorem fsM_lt {wy a r : Int} {n : Nat} (hm : fsM wy a < n + 1) (ha : 0 ≤ a ∧ a < 80) (hr : r = -1 ∨ (0 ≤ r ∧ r < 80 ∧ ((2 ≤ wy ∧ wy ≤ 5 ∧ a < r) ∨ ((wy ≤ 1 ∨ 6 ≤ wy) ∧ r < a)))) : fsM wy r < n := by
  have key : fsM wy r < fsM wy a := by
    unfold fsM
    rw [if_neg (show ¬ a < 0 by omega)]
    rcases hr with rfl | ⟨h1, h2, h3⟩
    · rw [if_pos (show (-1 : Int) < 0 by decide)]
      split <;> omega
    · rw [if_neg (show ¬ r < 0 by omega)]
      split <;> omega
  omega
/-- an open cell of the model's city -/
def opn (cy : Nat → Int32) (k : Int) : Prop := 0 ≤ k ∧ k < 80 ∧ k % 10 < (cy 0).toInt ∧ k / 10 < (cy 1).toInt ∧ (cy (4 + k.toNat)).toInt = -3
theorem opn_v {cy : Nat → Int32} {k : Int} {i : Int32} (h : opn cy k) (hi : i.toInt = 4 + k) : (-3 : Int32) = cy i.toNatClampNeg := by
  have h3 : i.toNatClampNeg = i.toInt.toNat := rfl
  have z := h.2.2.2.2
  have h0 := h.1
  rw [h3, show i.toInt.toNat = 4 + k.toNat from by omega]
  exact (Int32.toInt_inj.mp (z.trans rfl)).symm
