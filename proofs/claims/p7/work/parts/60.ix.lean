def stSheet (ln sn : Nat → Int32) (a b nn r : Int32) (ln2 sn2 : Nat → Int32) : Prop := (¬ (0 ≤ a.toInt ∧ a.toInt < 8 ∧ 0 ≤ b.toInt ∧ b.toInt < 3 ∧ nn.toInt ≤ 40) ∧ r = -1000001 ∧ ln2 = ln ∧ sn2 = sn) ∨ ((0 ≤ a.toInt ∧ a.toInt < 8 ∧ 0 ≤ b.toInt ∧ b.toInt < 3 ∧ nn.toInt < 0) ∧ r = -1000014 ∧ ln2 = ln ∧ sn2 = sn) ∨ ((0 ≤ a.toInt ∧ a.toInt < 8 ∧ 0 ≤ b.toInt ∧ b.toInt < 3 ∧ 0 ≤ nn.toInt ∧ nn.toInt ≤ 40) ∧ r = nn ∧ ln2 = upd ln a.toNatClampNeg b ∧ sn2 = upd sn a.toNatClampNeg nn)
theorem stSheet_eq {ln sn ln2 sn2 ln3 sn3 : Nat → Int32} {a b nn r q : Int32} (h : stSheet ln sn a b nn r ln2 sn2) (k : stSheet ln sn a b nn q ln3 sn3) : r = q ∧ ln2 = ln3 ∧ sn2 = sn3 := by
  rcases h with ⟨h1, rfl, rfl, rfl⟩ | ⟨h1, rfl, rfl, rfl⟩ | ⟨h1, rfl, rfl, rfl⟩ <;> rcases k with ⟨k1, rfl, rfl, rfl⟩ | ⟨k1, rfl, rfl, rfl⟩ | ⟨k1, rfl, rfl, rfl⟩ <;> first | exact ⟨rfl, rfl, rfl⟩ | (exfalso; omega)
def stSet0 (x n a i v r : Int32) : Prop := (¬ ((0 ≤ a.toInt ∧ a.toInt < 8)) ∧ r = -1000001) ∨ (((0 ≤ a.toInt ∧ a.toInt < 8) ∧ x.toInt < 0) ∧ r = -1000011) ∨ (((0 ≤ a.toInt ∧ a.toInt < 8) ∧ 0 ≤ x.toInt ∧ ¬ (0 ≤ i.toInt ∧ i.toInt < n.toInt)) ∧ r = -1000012) ∨ (((0 ≤ a.toInt ∧ a.toInt < 8) ∧ 0 ≤ x.toInt ∧ 0 ≤ i.toInt ∧ i.toInt < n.toInt) ∧ r = putV x v)
def stSet (ln sn : Nat → Int32) (a i v r : Int32) : Prop := stSet0 (ln a.toNatClampNeg) (sn a.toNatClampNeg) a i v r
theorem stSet_eq {ln sn : Nat → Int32} {a i v r q : Int32} (h : stSet ln sn a i v r) (k : stSet ln sn a i v q) : r = q := by
  rcases h with ⟨h1, rfl⟩ | ⟨h1, rfl⟩ | ⟨h1, rfl⟩ | ⟨h1, rfl⟩ <;> rcases k with ⟨k1, rfl⟩ | ⟨k1, rfl⟩ | ⟨k1, rfl⟩ | ⟨k1, rfl⟩ <;> first | rfl | (exfalso; omega)
theorem cl8 {a : Int32} (h : (0 ≤ a.toInt ∧ a.toInt < 8)) : a.toNatClampNeg < 8 := by
  have h2 : a.toNatClampNeg = a.toInt.toNat := rfl
  omega
theorem stSet_tr {la ma ln sn : Nat → Int32} {a i v r : Int32} (hla : ∀ j : Nat, j < 8 → la j = ln j) (hma : ∀ j : Nat, j < 8 → 0 ≤ (ln j).toInt → ma j = sn j) (h : stSet la ma a i v r) : stSet ln sn a i v r := by
  rcases h with ⟨h1, h2⟩ | ⟨h1, h2⟩ | ⟨h1, h2⟩ | ⟨h1, h2⟩
  · exact Or.inl ⟨h1, h2⟩
  · rw [hla _ (cl8 h1.1)] at h1
    exact Or.inr (Or.inl ⟨h1, h2⟩)
  · rw [hla _ (cl8 h1.1)] at h1
    rw [hma _ (cl8 h1.1) h1.2.1] at h1
    exact Or.inr (Or.inr (Or.inl ⟨h1, h2⟩))
  · rw [hla _ (cl8 h1.1)] at h1 h2
    rw [hma _ (cl8 h1.1) h1.2.1] at h1
    exact Or.inr (Or.inr (Or.inr ⟨h1, h2⟩))
def stDrop (ln sn : Nat → Int32) (a r : Int32) (ln2 sn2 : Nat → Int32) : Prop := (¬ ((0 ≤ a.toInt ∧ a.toInt < 8)) ∧ r = -1000001 ∧ ln2 = ln ∧ sn2 = sn) ∨ (((0 ≤ a.toInt ∧ a.toInt < 8) ∧ (ln a.toNatClampNeg).toInt < 0) ∧ r = -1000011 ∧ ln2 = ln ∧ sn2 = sn) ∨ (((0 ≤ a.toInt ∧ a.toInt < 8) ∧ 0 ≤ (ln a.toNatClampNeg).toInt) ∧ r = sn a.toNatClampNeg ∧ ln2 = upd ln a.toNatClampNeg (-1) ∧ sn2 = upd sn a.toNatClampNeg 0)
theorem stDrop_eq {ln sn ln2 sn2 ln3 sn3 : Nat → Int32} {a r q : Int32} (h : stDrop ln sn a r ln2 sn2) (k : stDrop ln sn a q ln3 sn3) : r = q ∧ ln2 = ln3 ∧ sn2 = sn3 := by
  rcases h with ⟨h1, rfl, rfl, rfl⟩ | ⟨h1, rfl, rfl, rfl⟩ | ⟨h1, rfl, rfl, rfl⟩ <;> rcases k with ⟨k1, rfl, rfl, rfl⟩ | ⟨k1, rfl, rfl, rfl⟩ | ⟨k1, rfl, rfl, rfl⟩ <;> first | exact ⟨rfl, rfl, rfl⟩ | (exfalso; omega)
def stCopy0 (x n y k a i b j nn r : Int32) : Prop := (¬ ((0 ≤ a.toInt ∧ a.toInt < 8) ∧ (0 ≤ b.toInt ∧ b.toInt < 8)) ∧ r = -1000001) ∨ (((0 ≤ a.toInt ∧ a.toInt < 8) ∧ (0 ≤ b.toInt ∧ b.toInt < 8) ∧ (x.toInt < 0 ∨ y.toInt < 0)) ∧ r = -1000011) ∨ (((0 ≤ a.toInt ∧ a.toInt < 8) ∧ (0 ≤ b.toInt ∧ b.toInt < 8) ∧ (0 ≤ x.toInt ∧ 0 ≤ y.toInt) ∧ ¬ x.toInt = y.toInt) ∧ r = -1000015) ∨ (((0 ≤ a.toInt ∧ a.toInt < 8) ∧ (0 ≤ b.toInt ∧ b.toInt < 8) ∧ (0 ≤ x.toInt ∧ 0 ≤ y.toInt) ∧ x.toInt = y.toInt ∧ ¬ (0 ≤ i.toInt ∧ 0 ≤ j.toInt ∧ 0 ≤ nn.toInt ∧ i.toInt + nn.toInt ≤ n.toInt ∧ j.toInt + nn.toInt ≤ k.toInt)) ∧ r = -1000012) ∨ (((0 ≤ a.toInt ∧ a.toInt < 8) ∧ (0 ≤ b.toInt ∧ b.toInt < 8) ∧ (0 ≤ x.toInt ∧ 0 ≤ y.toInt) ∧ x.toInt = y.toInt ∧ 0 ≤ i.toInt ∧ 0 ≤ j.toInt ∧ 0 ≤ nn.toInt ∧ i.toInt + nn.toInt ≤ n.toInt ∧ j.toInt + nn.toInt ≤ k.toInt) ∧ r = nn)
def stCopy (ln sn : Nat → Int32) (a i b j nn r : Int32) : Prop := stCopy0 (ln a.toNatClampNeg) (sn a.toNatClampNeg) (ln b.toNatClampNeg) (sn b.toNatClampNeg) a i b j nn r
theorem stCopy_eq {ln sn : Nat → Int32} {a i b j nn r q : Int32} (h : stCopy ln sn a i b j nn r) (k : stCopy ln sn a i b j nn q) : r = q := by
  rcases h with ⟨h1, rfl⟩ | ⟨h1, rfl⟩ | ⟨h1, rfl⟩ | ⟨h1, rfl⟩ | ⟨h1, rfl⟩ <;> rcases k with ⟨k1, rfl⟩ | ⟨k1, rfl⟩ | ⟨k1, rfl⟩ | ⟨k1, rfl⟩ | ⟨k1, rfl⟩ <;> first | rfl | (exfalso; omega)
theorem stCopy_tr {la ma ln sn : Nat → Int32} {a i b j nn r : Int32} (hla : ∀ j : Nat, j < 8 → la j = ln j) (hma : ∀ j : Nat, j < 8 → 0 ≤ (ln j).toInt → ma j = sn j) (h : stCopy la ma a i b j nn r) : stCopy ln sn a i b j nn r := by
  by_cases hA : (0 ≤ a.toInt ∧ a.toInt < 8)
  · by_cases hB : (0 ≤ b.toInt ∧ b.toInt < 8)
    · have e1 := hla _ (cl8 hA)
      have e2 := hla _ (cl8 hB)
      unfold stCopy at h
      rw [e1, e2] at h
      by_cases h1 : 0 ≤ (ln a.toNatClampNeg).toInt
      · by_cases h2 : 0 ≤ (ln b.toNatClampNeg).toInt
        · rw [hma _ (cl8 hA) h1, hma _ (cl8 hB) h2] at h
          exact h
        · rcases h with ⟨k, e⟩ | ⟨k, e⟩ | ⟨k, e⟩ | ⟨k, e⟩ | ⟨k, e⟩
          · exact Or.inl ⟨k, e⟩
          · exact Or.inr (Or.inl ⟨k, e⟩)
          · exact absurd k.2.2.1.2 h2
          · exact absurd k.2.2.1.2 h2
          · exact absurd k.2.2.1.2 h2
      · rcases h with ⟨k, e⟩ | ⟨k, e⟩ | ⟨k, e⟩ | ⟨k, e⟩ | ⟨k, e⟩
        · exact Or.inl ⟨k, e⟩
        · exact Or.inr (Or.inl ⟨k, e⟩)
        · exact absurd k.2.2.1.1 h1
        · exact absurd k.2.2.1.1 h1
        · exact absurd k.2.2.1.1 h1
    · rcases h with ⟨k, e⟩ | ⟨k, e⟩ | ⟨k, e⟩ | ⟨k, e⟩ | ⟨k, e⟩
      · exact Or.inl ⟨k, e⟩
      · exact absurd k.2.1 hB
      · exact absurd k.2.1 hB
      · exact absurd k.2.1 hB
      · exact absurd k.2.1 hB
  · rcases h with ⟨k, e⟩ | ⟨k, e⟩ | ⟨k, e⟩ | ⟨k, e⟩ | ⟨k, e⟩
    · exact Or.inl ⟨k, e⟩
    · exact absurd k.1 hA
    · exact absurd k.1 hA
    · exact absurd k.1 hA
    · exact absurd k.1 hA
def fdF (w : Int64) (bf : Nat → Int32) (a e : Int) : Nat → Int32 := fun j => if (j : Int) < a then bf j else bytW w (e - 1 - j)
theorem fdB_cg {w : Int64} {f bf f2 : Nat → Int32} {a e q : Int} (h : fdB w f a e f2 q) (hb : ∀ j : Nat, (j : Int) < a → f j = bf j) : ∀ j : Nat, (j : Int) < q → f2 j = fdF w bf a e j := by
  intro j hj
  rw [h j hj]
  show _ = (if (j : Int) < a then bf j else bytW w (e - 1 - j))
  split
  · next z => exact hb j z
  · rfl
def stFeed (tz : Int32) (bf : Nat → Int32) (wv : Int64) (nn r tz2 : Int32) (bf2 : Nat → Int32) : Prop := (¬ ((1 ≤ nn.toInt ∧ nn.toInt ≤ 8)) ∧ r = -1000001 ∧ tz2 = tz ∧ bf2 = bf) ∨ (((1 ≤ nn.toInt ∧ nn.toInt ≤ 8) ∧ 400 < tz.toInt + nn.toInt) ∧ r = -1000003 ∧ tz2 = tz ∧ bf2 = bf) ∨ (((1 ≤ nn.toInt ∧ nn.toInt ≤ 8) ∧ tz.toInt + nn.toInt ≤ 400 ∧ tz2.toInt = tz.toInt + nn.toInt) ∧ r = tz2 ∧ bf2 = fdF wv bf tz.toInt (tz.toInt + nn.toInt))
theorem stFeed_eq {tz nn r tz2 q tz3 : Int32} {bf bf2 bf3 : Nat → Int32} {wv : Int64} (h : stFeed tz bf wv nn r tz2 bf2) (k : stFeed tz bf wv nn q tz3 bf3) : r = q ∧ tz2 = tz3 ∧ bf2 = bf3 := by
  rcases h with ⟨h1, h2, h3, h4⟩ | ⟨h1, h2, h3, h4⟩ | ⟨h1, h2, h4⟩ <;> rcases k with ⟨k1, k2, k3, k4⟩ | ⟨k1, k2, k3, k4⟩ | ⟨k1, k2, k4⟩ <;> first | exact ⟨h2.trans k2.symm, h3.trans k3.symm, h4.trans k4.symm⟩ | (exfalso; omega) | (have e : tz2 = tz3 := Int32.toInt_inj.mp (by omega); exact ⟨h2.trans (e.trans k2.symm), e, h4.trans k4.symm⟩)
def stCity (tz : Int32) (bf : Nat → Int32) (lt th r lt2 th2 : Int32) : Prop := (∃ p : Int32, RD (tx bf tz.toInt) = fltR lt2.toInt p.toInt ∧ r = (-1000100) - p ∧ th2 = th) ∨ (∃ (w h : Int) (P F L H M : Nat → Int), RD (tx bf tz.toInt) = okR w h r.toInt P F L H M ∧ 1 ≤ w ∧ lt2 = lt ∧ th2 = 1)
theorem stCity_eq {tz lt th r lt2 th2 q lt3 th3 : Int32} {bf : Nat → Int32} (h : stCity tz bf lt th r lt2 th2) (k : stCity tz bf lt th q lt3 th3) : r = q ∧ lt2 = lt3 ∧ th2 = th3 := by
  rcases h with ⟨p, h1, h2, h3⟩ | ⟨w, h, P, F, L, H, M, h1, h2, h3, h4⟩ <;> rcases k with ⟨p', k1, k2, k3⟩ | ⟨w', h', P', F', L', H', M', k1, k2, k3, k4⟩
  · rw [h1] at k1
    have e1 : lt2.toInt = lt3.toInt := congrArg (fun z => z.1) k1
    have e2 : p.toInt = p'.toInt := congrArg (fun z => z.2.1) k1
    rw [h2, k2, Int32.toInt_inj.mp e2]
    exact ⟨rfl, Int32.toInt_inj.mp e1, h3.trans k3.symm⟩
  · rw [h1] at k1
    have e1 : 0 = w' := congrArg (fun z => z.2.2.1) k1
    omega
  · rw [h1] at k1
    have e1 : w = 0 := congrArg (fun z => z.2.2.1) k1
    omega
  · rw [h1] at k1
    have e1 : r.toInt = q.toInt := congrArg (fun z => z.2.2.2.2.1) k1
    exact ⟨Int32.toInt_inj.mp e1, h3.trans k3.symm, h4.trans k4.symm⟩
def thC (th cw : Int32) : Prop := (th = 0 ∧ cw.toInt = 0) ∨ (th = 1 ∧ 1 ≤ cw.toInt)
def thK (k iw th : Int32) : Prop := (k = 0 ∧ iw.toInt = 0) ∨ (k = 1 ∧ 1 ≤ iw.toInt ∧ th = 1)
theorem stCity_x {f bf : Nat → Int32} {tz lt th r lt2 p w h n cw iw jw k0 k1 : Int32} {U : Prop} {fc fp ff fl fh fm fg fd fb : Nat → Int32} (hb : ∀ j : Nat, (j : Int) < tz.toInt → f j = bf j) (k : (RD (tx f tz.toInt) = fltR lt2.toInt p.toInt ∧ r = (-1000100) - p ∧ w = cw ∧ U) ∨ (CIT (tx f tz.toInt) w.toInt h.toInt n.toInt fc fp ff fl fh fm fg fd fb ∧ r = n ∧ lt2 = lt)) (ht : thC th cw) (h0 : thK k0 iw th) (h1 : thK k1 jw th) : ∃ th2 : Int32, stCity tz bf lt th r lt2 th2 ∧ thC th2 w ∧ thK k0 iw th2 ∧ thK k1 jw th2 := by
  rw [tx_eq hb] at k
  rcases k with ⟨q1, q2, q3, _⟩ | ⟨q1, q2, q3⟩
  · exact ⟨th, Or.inl ⟨p, q1, q2, rfl⟩, by rw [q3]; exact ht, h0, h1⟩
  · refine ⟨1, Or.inr ⟨_, _, _, _, _, _, _, by rw [q2]; exact q1.1, q1.2.2.2.2.2, q3, rfl⟩, Or.inr ⟨rfl, q1.2.2.2.2.2⟩, ?_, ?_⟩
    · rcases h0 with z | z
      · exact Or.inl z
      · exact Or.inr ⟨z.1, z.2.1, rfl⟩
    · rcases h1 with z | z
      · exact Or.inl z
      · exact Or.inr ⟨z.1, z.2.1, rfl⟩
theorem stCity_y {f bf cy2 : Nat → Int32} {tz lt th r lt2 th2 p : Int32} {U : Prop} (hb : ∀ j : Nat, (j : Int) < tz.toInt → f j = bf j) (k : (RD (tx f tz.toInt) = fltR lt2.toInt p.toInt ∧ r = (-1000100) - p ∧ U ∧ th2 = th) ∨ (CIm (tx f tz.toInt) cy2 ∧ r = cy2 3 ∧ lt2 = lt ∧ th2 = 1)) : stCity tz bf lt th r lt2 th2 := by
  rw [tx_eq hb] at k
  rcases k with ⟨k1, k2, _, k4⟩ | ⟨k1, k2, k3, k4⟩
  · exact Or.inl ⟨p, k1, k2, k4⟩
  · exact Or.inr ⟨_, _, _, _, _, _, _, by rw [k2]; exact k1.1, k1.2.2.2, k3, k4⟩
def stImage (th k0 k1 a r k02 k12 : Int32) : Prop := (¬ (0 ≤ a.toInt ∧ a.toInt < 2) ∧ r = -1000001 ∧ k02 = k0 ∧ k12 = k1) ∨ ((0 ≤ a.toInt ∧ a.toInt < 2 ∧ th.toInt = 0) ∧ r = -1000002 ∧ k02 = k0 ∧ k12 = k1) ∨ ((0 ≤ a.toInt ∧ a.toInt < 2 ∧ ¬ th.toInt = 0) ∧ r = 1 ∧ k02 = (if a.toInt = 0 then 1 else k0) ∧ k12 = (if a.toInt = 1 then 1 else k1))
theorem stImage_eq {th k0 k1 a r k02 k12 q k03 k13 : Int32} (h : stImage th k0 k1 a r k02 k12) (k : stImage th k0 k1 a q k03 k13) : r = q ∧ k02 = k03 ∧ k12 = k13 := by
  rcases h with ⟨h1, h2, h3, h4⟩ | ⟨h1, h2, h3, h4⟩ | ⟨h1, h2, h3, h4⟩ <;> rcases k with ⟨q1, q2, q3, q4⟩ | ⟨q1, q2, q3, q4⟩ | ⟨q1, q2, q3, q4⟩ <;> first | exact ⟨h2.trans q2.symm, h3.trans q3.symm, h4.trans q4.symm⟩ | (exfalso; omega)
def stRestore (k0 k1 a r : Int32) : Prop := (¬ (0 ≤ a.toInt ∧ a.toInt < 2) ∧ r = -1000001) ∨ ((a.toInt = 0 ∧ k0.toInt = 0) ∧ r = -1000002) ∨ ((a.toInt = 0 ∧ ¬ k0.toInt = 0) ∧ r = 1) ∨ ((a.toInt = 1 ∧ k1.toInt = 0) ∧ r = -1000002) ∨ ((a.toInt = 1 ∧ ¬ k1.toInt = 0) ∧ r = 1)
theorem stRestore_eq {k0 k1 a r q : Int32} (h : stRestore k0 k1 a r) (k : stRestore k0 k1 a q) : r = q := by
  rcases h with ⟨h1, h2⟩ | ⟨h1, h2⟩ | ⟨h1, h2⟩ | ⟨h1, h2⟩ | ⟨h1, h2⟩ <;> rcases k with ⟨q1, q2⟩ | ⟨q1, q2⟩ | ⟨q1, q2⟩ | ⟨q1, q2⟩ | ⟨q1, q2⟩ <;> first | exact h2.trans q2.symm | (exfalso; omega)
theorem thC_0 {th cw : Int32} (h : thC th cw) : cw.toInt = 0 ↔ th.toInt = 0 := by
  rcases h with ⟨rfl, h⟩ | ⟨rfl, h⟩
  · exact ⟨fun _ => rfl, fun _ => h⟩
  · exact ⟨fun z => absurd z (by omega), fun z => absurd z (by decide)⟩
theorem thK_0 {k iw th : Int32} (h : thK k iw th) : iw.toInt = 0 ↔ k.toInt = 0 := by
  rcases h with ⟨rfl, h⟩ | ⟨rfl, h, _⟩
  · exact ⟨fun _ => rfl, fun _ => h⟩
  · exact ⟨fun z => absurd z (by omega), fun z => absurd z (by decide)⟩
theorem thK_1 {th cw iw : Int32} (h : thC th cw) (hn : ¬ cw.toInt = 0) (e : iw = cw) : thK 1 iw th := by
  rcases h with ⟨rfl, h⟩ | ⟨rfl, h⟩
  · exact absurd h hn
  · exact Or.inr ⟨rfl, by rw [e]; exact h, rfl⟩
theorem thC_1 {k th cw iw : Int32} (h : thK k iw th) (hn : ¬ iw.toInt = 0) (e : cw = iw) : thC th cw := by
  rcases h with ⟨rfl, h⟩ | ⟨rfl, h, h2⟩
  · exact absurd h hn
  · exact Or.inr ⟨h2, by rw [e]; exact h⟩
theorem reK {ik : Nat → Int32} {k0 k1 a r : Int32} (h : ik 0 = k0 ∧ ik 1 = k1) (ha : (0 ≤ a.toInt ∧ a.toInt < 2) ∧ (((ik a.toNatClampNeg).toInt = 0 ∧ r = -1000002) ∨ (¬ (ik a.toNatClampNeg).toInt = 0 ∧ r = 1))) : stRestore k0 k1 a r := by
  obtain ⟨ha, hz⟩ := ha
  rcases (show a.toInt = 0 ∨ a.toInt = 1 by omega) with q | q
  · rw [show a.toNatClampNeg = 0 from by show a.toInt.toNat = 0; omega, h.1] at hz
    rcases hz with z | z
    · exact Or.inr (Or.inl ⟨⟨q, z.1⟩, z.2⟩)
    · exact Or.inr (Or.inr (Or.inl ⟨⟨q, z.1⟩, z.2⟩))
  · rw [show a.toNatClampNeg = 1 from by show a.toInt.toNat = 1; omega, h.2] at hz
    rcases hz with z | z
    · exact Or.inr (Or.inr (Or.inr (Or.inl ⟨⟨q, z.1⟩, z.2⟩)))
    · exact Or.inr (Or.inr (Or.inr (Or.inr ⟨⟨q, z.1⟩, z.2⟩)))
theorem imK {ik ik2 : Nat → Int32} {k0 k1 a : Int32} (h : ik 0 = k0 ∧ ik 1 = k1) (e : ik2 = upd ik a.toNatClampNeg 1) (ha : 0 ≤ a.toInt ∧ a.toInt < 2) : ik2 0 = (if a.toInt = 0 then 1 else k0) ∧ ik2 1 = (if a.toInt = 1 then 1 else k1) := by
  have h3 : a.toNatClampNeg = a.toInt.toNat := rfl
  rw [e]
  refine ⟨?_, ?_⟩
  · show (if 0 = a.toNatClampNeg then 1 else ik 0) = _
    rcases (show a.toInt = 0 ∨ a.toInt = 1 by omega) with q | q
    · rw [if_pos (by omega), if_pos q]
    · rw [if_neg (by omega), if_neg (by omega), h.1]
  · show (if 1 = a.toNatClampNeg then 1 else ik 1) = _
    rcases (show a.toInt = 0 ∨ a.toInt = 1 by omega) with q | q
    · rw [if_neg (by omega), if_neg (by omega), h.2]
    · rw [if_pos (by omega), if_pos q]
theorem no_j {P : Nat → Prop} : ∀ j : Nat, (j : Int) < (0 : Int32).toInt → P j := fun j hj => absurd (show (j : Int) < 0 from hj) (by omega)
theorem upd_cg {f g : Nat → Int32} {k : Nat} {v : Int32} (h : ∀ j : Nat, j < 8 → f j = g j) : ∀ j : Nat, j < 8 → upd f k v j = upd g k v j := by
  intro j hj
  show (if j = k then v else f j) = (if j = k then v else g j)
  rw [h j hj]
theorem upd_cm {ma ln sn : Nat → Int32} {k : Nat} {b v : Int32} (h : ∀ j : Nat, j < 8 → 0 ≤ (ln j).toInt → ma j = sn j) : ∀ j : Nat, j < 8 → 0 ≤ (upd ln k b j).toInt → upd ma k v j = upd sn k v j := by
  intro j hj
  show 0 ≤ (if j = k then b else ln j).toInt → (if j = k then v else ma j) = (if j = k then v else sn j)
  by_cases q : j = k
  · intro _
    rw [if_pos q, if_pos q]
  · rw [if_neg q, if_neg q, if_neg q]
    exact h j hj
theorem upd_cd {ma ln sn : Nat → Int32} {k : Nat} {v : Int32} (h : ∀ j : Nat, j < 8 → 0 ≤ (ln j).toInt → ma j = sn j) : ∀ j : Nat, j < 8 → 0 ≤ (upd ln k (-1) j).toInt → ma j = upd sn k v j := by
  intro j hj
  show 0 ≤ (if j = k then (-1 : Int32) else ln j).toInt → ma j = (if j = k then v else sn j)
  by_cases q : j = k
  · rw [if_pos q]
    intro z
    exact absurd z (by decide)
  · rw [if_neg q, if_neg q]
    exact h j hj
def IX (cI cC cS : ClassId) (ad : Nat → Nat) (fq fim : Nat → Option Nat) (ln sn : Nat → Int32) (tz : Int32) (bf : Nat → Int32) (lt th k0 k1 : Int32) (wx : va_W) : Prop := ∃ (vS : Nat → Int32) (fS : Nat → Nat → Int32) (uS : Nat → Nat), ((fq 0 = some (ad 2)) ∧ (fq 1 = some (ad 4)) ∧ (fq 2 = some (ad 6)) ∧ (fq 3 = some (ad 8)) ∧ (fq 4 = some (ad 10)) ∧ (fq 5 = some (ad 12)) ∧ (fq 6 = some (ad 14)) ∧ (fq 7 = some (ad 16)) ∧ (rng ln 8 (-1) (2)) ∧ (rng sn 8 (0) (40)) ∧ (0 ≤ tz.toInt ∧ tz.toInt ≤ 400) ∧ (0 ≤ (vS 5).toInt ∧ (vS 5).toInt ≤ 10) ∧ (0 ≤ (vS 6).toInt ∧ (vS 6).toInt ≤ 8) ∧ (0 ≤ (vS 7).toInt ∧ (vS 7).toInt ≤ 6) ∧ (0 ≤ (vS 13).toInt ∧ (vS 13).toInt ≤ 10) ∧ (0 ≤ (vS 14).toInt ∧ (vS 14).toInt ≤ 8) ∧ (0 ≤ (vS 15).toInt ∧ (vS 15).toInt ≤ 6) ∧ (0 ≤ (vS 16).toInt ∧ (vS 16).toInt ≤ 10) ∧ (0 ≤ (vS 17).toInt ∧ (vS 17).toInt ≤ 8) ∧ (0 ≤ (vS 18).toInt ∧ (vS 18).toInt ≤ 6) ∧ (rng (fS 9) 80 (-1) (8)) ∧ (rng (fS 12) 6 (0) (79)) ∧ (rng (fS 13) 6 (0) (79)) ∧ (rng (fS 18) 80 (-1) (8)) ∧ (rng (fS 21) 6 (0) (79)) ∧ (rng (fS 22) 6 (0) (79)) ∧ (rng (fS 27) 80 (-1) (8)) ∧ (rng (fS 30) 6 (0) (79)) ∧ (rng (fS 31) 6 (0) (79)) ∧ (rng (fS 36) 80 (-1) (8)) ∧ (rng (fS 39) 6 (0) (79)) ∧ (rng (fS 40) 6 (0) (79)) ∧ (rng (fS 45) 640 (-1) (79)) ∧ (rng (fS 46) 640 (-1) (79)) ∧ (rng (fS 47) 640 (0) (2)) ∧ (rng (fS 48) 640 (0) (6)) ∧ (rng (fS 49) 640 (-1) (79)) ∧ (rng (fS 50) 640 (-1) (79)) ∧ (rng (fS 51) 640 (0) (2)) ∧ (rng (fS 52) 640 (0) (6)) ∧ (rng (fS 55) 480 (0) (479)) ∧ (0 ≤ (vS 20).toInt ∧ (vS 20).toInt < 480) ∧ (0 ≤ (vS 22).toInt ∧ (vS 22).toInt < 480) ∧ (0 ≤ (vS 21).toInt ∧ (vS 21).toInt ≤ 5) ∧ (0 ≤ (vS 23).toInt ∧ (vS 23).toInt ≤ 16) ∧ (rng (fS 8) 400 (0) (255)) ∧ (∀ j : Nat, (j : Int) < tz.toInt → (fS 8) j = bf j) ∧ (thC th (vS 5)) ∧ (thK k0 (vS 13) th) ∧ (thK k1 (vS 16) th) ∧ (fim 0 = some (ad 42)) ∧ (fim 1 = some (ad 52))) ∧ wx = [((ad 0), .inr (8, [.ref ((ad 1)), .ref ((ad 18)), .ref ((ad 20)), .ref ((ad 30)), .ref ((ad 40)), .ref ((ad 41)), .ref ((ad 62)), .ref ((ad 67)), .ref ((ad 72)), .ref ((ad 77)), .ref ((ad 81)), .int lt, .int (vS 0)])), ((ad 1), .inl (cS, 8, .inr (.inr (.inr (.inr fq))))), ((ad 2), .inr (4, [.int ((ln 0)), .int ((sn 0)), .ref ((ad 3))])), ((ad 3), .inl (cI, 40, .inl (fS 0))), ((ad 4), .inr (4, [.int ((ln 1)), .int ((sn 1)), .ref ((ad 5))])), ((ad 5), .inl (cI, 40, .inl (fS 1))), ((ad 6), .inr (4, [.int ((ln 2)), .int ((sn 2)), .ref ((ad 7))])), ((ad 7), .inl (cI, 40, .inl (fS 2))), ((ad 8), .inr (4, [.int ((ln 3)), .int ((sn 3)), .ref ((ad 9))])), ((ad 9), .inl (cI, 40, .inl (fS 3))), ((ad 10), .inr (4, [.int ((ln 4)), .int ((sn 4)), .ref ((ad 11))])), ((ad 11), .inl (cI, 40, .inl (fS 4))), ((ad 12), .inr (4, [.int ((ln 5)), .int ((sn 5)), .ref ((ad 13))])), ((ad 13), .inl (cI, 40, .inl (fS 5))), ((ad 14), .inr (4, [.int ((ln 6)), .int ((sn 6)), .ref ((ad 15))])), ((ad 15), .inl (cI, 40, .inl (fS 6))), ((ad 16), .inr (4, [.int ((ln 7)), .int ((sn 7)), .ref ((ad 17))])), ((ad 17), .inl (cI, 40, .inl (fS 7))), ((ad 18), .inr (5, [.ref ((ad 19)), .int tz, .int (vS 1), .int (vS 2), .int (vS 3), .int (vS 4)])), ((ad 19), .inl (cI, 400, .inl (fS 8))), ((ad 20), .inr (1, [.int (vS 5), .int (vS 6), .int (vS 7), .ref ((ad 21)), .ref ((ad 22)), .ref ((ad 23)), .ref ((ad 24)), .ref ((ad 25)), .ref ((ad 26)), .ref ((ad 27)), .ref ((ad 28)), .ref ((ad 29))])), ((ad 21), .inl (cI, 80, .inl (fS 9))), ((ad 22), .inl (cI, 6, .inl (fS 10))), ((ad 23), .inl (cI, 6, .inl (fS 11))), ((ad 24), .inl (cI, 6, .inl (fS 12))), ((ad 25), .inl (cI, 6, .inl (fS 13))), ((ad 26), .inl (cI, 6, .inl (fS 14))), ((ad 27), .inl (cI, 6, .inl (fS 15))), ((ad 28), .inl (cI, 36, .inl (fS 16))), ((ad 29), .inl (cI, 36, .inl (fS 17))), ((ad 30), .inr (1, [.int (vS 8), .int (vS 9), .int (vS 10), .ref ((ad 31)), .ref ((ad 32)), .ref ((ad 33)), .ref ((ad 34)), .ref ((ad 35)), .ref ((ad 36)), .ref ((ad 37)), .ref ((ad 38)), .ref ((ad 39))])), ((ad 31), .inl (cI, 80, .inl (fS 18))), ((ad 32), .inl (cI, 6, .inl (fS 19))), ((ad 33), .inl (cI, 6, .inl (fS 20))), ((ad 34), .inl (cI, 6, .inl (fS 21))), ((ad 35), .inl (cI, 6, .inl (fS 22))), ((ad 36), .inl (cI, 6, .inl (fS 23))), ((ad 37), .inl (cI, 6, .inl (fS 24))), ((ad 38), .inl (cI, 36, .inl (fS 25))), ((ad 39), .inl (cI, 36, .inl (fS 26))), ((ad 40), .inr (3, [.ref ((ad 18)), .ref ((ad 30)), .int (vS 11), .int (vS 12)])), ((ad 41), .inl (cC, 2, .inr (.inr (.inr (.inr fim))))), ((ad 42), .inr (1, [.int (vS 13), .int (vS 14), .int (vS 15), .ref ((ad 43)), .ref ((ad 44)), .ref ((ad 45)), .ref ((ad 46)), .ref ((ad 47)), .ref ((ad 48)), .ref ((ad 49)), .ref ((ad 50)), .ref ((ad 51))])), ((ad 43), .inl (cI, 80, .inl (fS 27))), ((ad 44), .inl (cI, 6, .inl (fS 28))), ((ad 45), .inl (cI, 6, .inl (fS 29))), ((ad 46), .inl (cI, 6, .inl (fS 30))), ((ad 47), .inl (cI, 6, .inl (fS 31))), ((ad 48), .inl (cI, 6, .inl (fS 32))), ((ad 49), .inl (cI, 6, .inl (fS 33))), ((ad 50), .inl (cI, 36, .inl (fS 34))), ((ad 51), .inl (cI, 36, .inl (fS 35))), ((ad 52), .inr (1, [.int (vS 16), .int (vS 17), .int (vS 18), .ref ((ad 53)), .ref ((ad 54)), .ref ((ad 55)), .ref ((ad 56)), .ref ((ad 57)), .ref ((ad 58)), .ref ((ad 59)), .ref ((ad 60)), .ref ((ad 61))])), ((ad 53), .inl (cI, 80, .inl (fS 36))), ((ad 54), .inl (cI, 6, .inl (fS 37))), ((ad 55), .inl (cI, 6, .inl (fS 38))), ((ad 56), .inl (cI, 6, .inl (fS 39))), ((ad 57), .inl (cI, 6, .inl (fS 40))), ((ad 58), .inl (cI, 6, .inl (fS 41))), ((ad 59), .inl (cI, 6, .inl (fS 42))), ((ad 60), .inl (cI, 36, .inl (fS 43))), ((ad 61), .inl (cI, 36, .inl (fS 44))), ((ad 62), .inr (6, [.ref ((ad 63)), .ref ((ad 64)), .ref ((ad 65)), .ref ((ad 66))])), ((ad 63), .inl (cI, 640, .inl (fS 45))), ((ad 64), .inl (cI, 640, .inl (fS 46))), ((ad 65), .inl (cI, 640, .inl (fS 47))), ((ad 66), .inl (cI, 640, .inl (fS 48))), ((ad 67), .inr (6, [.ref ((ad 68)), .ref ((ad 69)), .ref ((ad 70)), .ref ((ad 71))])), ((ad 68), .inl (cI, 640, .inl (fS 49))), ((ad 69), .inl (cI, 640, .inl (fS 50))), ((ad 70), .inl (cI, 640, .inl (fS 51))), ((ad 71), .inl (cI, 640, .inl (fS 52))), ((ad 72), .inr (7, [.ref ((ad 20)), .ref (uS 0), .ref (uS 1), .ref ((ad 73)), .ref ((ad 74)), .ref ((ad 75)), .ref ((ad 76)), .int (vS 19), .int (vS 20), .int (vS 21), .int (vS 22)])), ((ad 73), .inl (cI, 7, .inl (fS 53))), ((ad 74), .inl (cI, 480, .inl (fS 54))), ((ad 75), .inl (cI, 480, .inl (fS 55))), ((ad 76), .inl (cI, 480, .inl (fS 56))), ((ad 77), .inr (2, [.ref ((ad 20)), .ref ((ad 72)), .ref ((ad 78)), .ref ((ad 79)), .ref ((ad 80))])), ((ad 78), .inl (cI, 6, .inl (fS 57))), ((ad 79), .inl (cI, 21, .inl (fS 58))), ((ad 80), .inl (cI, 21, .inl (fS 59))), ((ad 81), .inr (0, [.ref ((ad 20)), .ref ((ad 82)), .int (vS 23)])), ((ad 82), .inl (cI, 16, .inl (fS 60)))]
set_option maxRecDepth 100000 in
theorem IX_0 {cI cC cS : ClassId} {ad : Nat → Nat} {fq fim : Nat → Option Nat} {ln sn : Nat → Int32} {tz : Int32} {bf : Nat → Int32} {lt th k0 k1 : Int32} {wx : va_W} (h : IX cI cC cS ad fq fim ln sn tz bf lt th k0 k1 wx) : ∃ fs, wx[0]? = some (ad 0, .inr (8, fs)) := by
  obtain ⟨vS, fS, uS, hf, rfl⟩ := h
  exact ⟨_, rfl⟩
