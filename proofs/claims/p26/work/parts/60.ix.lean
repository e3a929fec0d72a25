def stSheet (ln sn iz : Nat → Int32) (fz a b nn r : Int32) (ln2 sn2 iz2 : Nat → Int32) (fz2 : Int32) : Prop := (¬ (0 ≤ a.toInt ∧ a.toInt < 8 ∧ 0 ≤ b.toInt ∧ b.toInt < 3 ∧ nn.toInt ≤ 40) ∧ r = -1000001 ∧ ln2 = ln ∧ sn2 = sn ∧ iz2 = iz ∧ fz2 = fz) ∨ ((0 ≤ a.toInt ∧ a.toInt < 8 ∧ 0 ≤ b.toInt ∧ b.toInt < 3 ∧ nn.toInt < 0) ∧ r = -1000014 ∧ ln2 = ln ∧ sn2 = sn ∧ iz2 = iz ∧ fz2 = 4) ∨ ((0 ≤ a.toInt ∧ a.toInt < 8 ∧ 0 ≤ b.toInt ∧ b.toInt < 3 ∧ 0 ≤ nn.toInt ∧ nn.toInt ≤ 40) ∧ r = nn ∧ ln2 = upd ln a.toNatClampNeg b ∧ sn2 = upd sn a.toNatClampNeg nn ∧ iz2 = zbI iz a.toNatClampNeg ∧ fz2 = 0)
theorem stSheet_eq {ln sn iz ln2 sn2 iz2 ln3 sn3 iz3 : Nat → Int32} {fz fz2 fz3 a b nn r q : Int32} (h : stSheet ln sn iz fz a b nn r ln2 sn2 iz2 fz2) (k : stSheet ln sn iz fz a b nn q ln3 sn3 iz3 fz3) : r = q ∧ ln2 = ln3 ∧ sn2 = sn3 ∧ iz2 = iz3 ∧ fz2 = fz3 := by
  rcases h with ⟨h1, h2, h3, h4, h5, h6⟩ | ⟨h1, h2, h3, h4, h5, h6⟩ | ⟨h1, h2, h3, h4, h5, h6⟩ <;> rcases k with ⟨k1, k2, k3, k4, k5, k6⟩ | ⟨k1, k2, k3, k4, k5, k6⟩ | ⟨k1, k2, k3, k4, k5, k6⟩ <;> first | exact ⟨h2.trans k2.symm, h3.trans k3.symm, h4.trans k4.symm, h5.trans k5.symm, h6.trans k6.symm⟩ | (exfalso; omega)
theorem cl8 {a : Int32} (h : (0 ≤ a.toInt ∧ a.toInt < 8)) : a.toNatClampNeg < 8 := by
  have h2 : a.toNatClampNeg = a.toInt.toNat := rfl
  omega
def stSet (ln sn iz : Nat → Int32) (fz a i v r : Int32) (iz2 : Nat → Int32) (fz2 : Int32) : Prop := (¬ ((0 ≤ a.toInt ∧ a.toInt < 8)) ∧ r = -1000001 ∧ iz2 = iz ∧ fz2 = fz) ∨ ((0 ≤ a.toInt ∧ a.toInt < 8) ∧ (((ln a.toNatClampNeg).toInt < 0 ∧ r = -1000011 ∧ iz2 = iz ∧ fz2 = 1) ∨ (0 ≤ (ln a.toNatClampNeg).toInt ∧ ((¬ (0 ≤ i.toInt ∧ i.toInt < (sn a.toNatClampNeg).toInt) ∧ r = -1000012 ∧ iz2 = iz ∧ fz2 = 2) ∨ ((0 ≤ i.toInt ∧ i.toInt < (sn a.toNatClampNeg).toInt) ∧ r = putV (ln a.toNatClampNeg) v ∧ iz2 = ubI iz a.toNatClampNeg i.toNatClampNeg r ∧ fz2 = 0)))))
theorem stSet_eq {ln sn iz iz2 iz3 : Nat → Int32} {fz fz2 fz3 a i v r q : Int32} (h : stSet ln sn iz fz a i v r iz2 fz2) (k : stSet ln sn iz fz a i v q iz3 fz3) : r = q ∧ iz2 = iz3 ∧ fz2 = fz3 := by
  rcases h with ⟨h1, h2, h3, h4⟩ | ⟨h1, h⟩ <;> rcases k with ⟨k1, k2, k3, k4⟩ | ⟨k1, k⟩
  · exact ⟨h2.trans k2.symm, h3.trans k3.symm, h4.trans k4.symm⟩
  · exact absurd k1 h1
  · exact absurd h1 k1
  · rcases h with ⟨h1, h2, h3, h4⟩ | ⟨h1, h⟩ <;> rcases k with ⟨k1, k2, k3, k4⟩ | ⟨k1, k⟩
    · exact ⟨h2.trans k2.symm, h3.trans k3.symm, h4.trans k4.symm⟩
    · exact absurd h1 (by omega)
    · exact absurd k1 (by omega)
    · rcases h with ⟨h1, h2, h3, h4⟩ | ⟨h1, h2, h3, h4⟩ <;> rcases k with ⟨k1, k2, k3, k4⟩ | ⟨k1, k2, k3, k4⟩
      · exact ⟨h2.trans k2.symm, h3.trans k3.symm, h4.trans k4.symm⟩
      · exact absurd k1 h1
      · exact absurd h1 k1
      · have e := h2.trans k2.symm
        subst e
        exact ⟨rfl, h3.trans k3.symm, h4.trans k4.symm⟩
def stDrop (ln sn iz : Nat → Int32) (fz a r : Int32) (ln2 sn2 iz2 : Nat → Int32) (fz2 : Int32) : Prop := (¬ ((0 ≤ a.toInt ∧ a.toInt < 8)) ∧ r = -1000001 ∧ ln2 = ln ∧ sn2 = sn ∧ iz2 = iz ∧ fz2 = fz) ∨ (((0 ≤ a.toInt ∧ a.toInt < 8) ∧ (ln a.toNatClampNeg).toInt < 0) ∧ r = -1000011 ∧ ln2 = ln ∧ sn2 = sn ∧ iz2 = iz ∧ fz2 = 1) ∨ (((0 ≤ a.toInt ∧ a.toInt < 8) ∧ 0 ≤ (ln a.toNatClampNeg).toInt) ∧ r = sn a.toNatClampNeg ∧ ln2 = upd ln a.toNatClampNeg (-1) ∧ sn2 = upd sn a.toNatClampNeg 0 ∧ iz2 = zbI iz a.toNatClampNeg ∧ fz2 = 0)
theorem stDrop_eq {ln sn iz ln2 sn2 iz2 ln3 sn3 iz3 : Nat → Int32} {fz fz2 fz3 a r q : Int32} (h : stDrop ln sn iz fz a r ln2 sn2 iz2 fz2) (k : stDrop ln sn iz fz a q ln3 sn3 iz3 fz3) : r = q ∧ ln2 = ln3 ∧ sn2 = sn3 ∧ iz2 = iz3 ∧ fz2 = fz3 := by
  rcases h with ⟨h1, h2, h3, h4, h5, h6⟩ | ⟨h1, h2, h3, h4, h5, h6⟩ | ⟨h1, h2, h3, h4, h5, h6⟩ <;> rcases k with ⟨k1, k2, k3, k4, k5, k6⟩ | ⟨k1, k2, k3, k4, k5, k6⟩ | ⟨k1, k2, k3, k4, k5, k6⟩ <;> first | exact ⟨h2.trans k2.symm, h3.trans k3.symm, h4.trans k4.symm, h5.trans k5.symm, h6.trans k6.symm⟩ | (exfalso; omega)
def okC (sn : Nat → Int32) (a i b j nn : Int32) : Prop := 0 ≤ i.toInt ∧ 0 ≤ j.toInt ∧ 0 ≤ nn.toInt ∧ i.toInt + nn.toInt ≤ (sn a.toNatClampNeg).toInt ∧ j.toInt + nn.toInt ≤ (sn b.toNatClampNeg).toInt
def stCopy (ln sn iz : Nat → Int32) (fz a i b j nn r : Int32) (iz2 : Nat → Int32) (fz2 : Int32) : Prop := (¬ ((0 ≤ a.toInt ∧ a.toInt < 8) ∧ (0 ≤ b.toInt ∧ b.toInt < 8)) ∧ r = -1000001 ∧ iz2 = iz ∧ fz2 = fz) ∨ (((0 ≤ a.toInt ∧ a.toInt < 8) ∧ (0 ≤ b.toInt ∧ b.toInt < 8)) ∧ ((((ln a.toNatClampNeg).toInt < 0 ∨ (ln b.toNatClampNeg).toInt < 0) ∧ r = -1000011 ∧ iz2 = iz ∧ fz2 = 1) ∨ ((0 ≤ (ln a.toNatClampNeg).toInt ∧ 0 ≤ (ln b.toNatClampNeg).toInt) ∧ ((¬ (ln a.toNatClampNeg).toInt = (ln b.toNatClampNeg).toInt ∧ r = -1000015 ∧ iz2 = iz ∧ fz2 = 5) ∨ ((ln a.toNatClampNeg).toInt = (ln b.toNatClampNeg).toInt ∧ ((¬ okC sn a i b j nn ∧ r = -1000012 ∧ iz2 = iz ∧ fz2 = 2) ∨ (okC sn a i b j nn ∧ r = nn ∧ iz2 = cpI iz a.toNatClampNeg i.toNatClampNeg b.toNatClampNeg j.toNatClampNeg nn.toNatClampNeg ∧ fz2 = 0)))))))
theorem stCopy_eq {ln sn iz iz2 iz3 : Nat → Int32} {fz fz2 fz3 a i b j nn r q : Int32} (h : stCopy ln sn iz fz a i b j nn r iz2 fz2) (k : stCopy ln sn iz fz a i b j nn q iz3 fz3) : r = q ∧ iz2 = iz3 ∧ fz2 = fz3 := by
  rcases h with ⟨h1, h2, h3, h4⟩ | ⟨h1, h⟩ <;> rcases k with ⟨k1, k2, k3, k4⟩ | ⟨k1, k⟩
  · exact ⟨h2.trans k2.symm, h3.trans k3.symm, h4.trans k4.symm⟩
  · exact absurd k1 h1
  · exact absurd h1 k1
  · rcases h with ⟨h1, h2, h3, h4⟩ | ⟨h1, h⟩ <;> rcases k with ⟨k1, k2, k3, k4⟩ | ⟨k1, k⟩
    · exact ⟨h2.trans k2.symm, h3.trans k3.symm, h4.trans k4.symm⟩
    · exact absurd h1 (by omega)
    · exact absurd k1 (by omega)
    · rcases h with ⟨h1, h2, h3, h4⟩ | ⟨h1, h⟩ <;> rcases k with ⟨k1, k2, k3, k4⟩ | ⟨k1, k⟩
      · exact ⟨h2.trans k2.symm, h3.trans k3.symm, h4.trans k4.symm⟩
      · exact absurd k1 h1
      · exact absurd h1 k1
      · rcases h with ⟨h1, h2, h3, h4⟩ | ⟨h1, h2, h3, h4⟩ <;> rcases k with ⟨k1, k2, k3, k4⟩ | ⟨k1, k2, k3, k4⟩
        · exact ⟨h2.trans k2.symm, h3.trans k3.symm, h4.trans k4.symm⟩
        · exact absurd k1 h1
        · exact absurd h1 k1
        · exact ⟨h2.trans k2.symm, h3.trans k3.symm, h4.trans k4.symm⟩
def fdF (w : Int64) (bf : Nat → Int32) (a e : Int) : Nat → Int32 := fun j => if (j : Int) < a then bf j else bytW w (e - 1 - j)
theorem fdB_cg {w : Int64} {f bf f2 : Nat → Int32} {a e q : Int} (h : fdB w f a e f2 q) (hb : ∀ j : Nat, (j : Int) < a → f j = bf j) : ∀ j : Nat, (j : Int) < q → f2 j = fdF w bf a e j := by
  intro j hj
  rw [h j hj]
  show _ = (if (j : Int) < a then bf j else bytW w (e - 1 - j))
  split
  · next z => exact hb j z
  · rfl
def stFeed (tz : Int32) (bf : Nat → Int32) (wv : Int64) (nn r tz2 : Int32) (bf2 : Nat → Int32) : Prop := (¬ ((1 ≤ nn.toInt ∧ nn.toInt ≤ 8)) ∧ r = -1000001 ∧ tz2 = tz ∧ bf2 = bf) ∨ (((1 ≤ nn.toInt ∧ nn.toInt ≤ 8) ∧ 400 < tz.toInt + nn.toInt) ∧ r = -1000003 ∧ tz2 = tz ∧ bf2 = bf) ∨ (((1 ≤ nn.toInt ∧ nn.toInt ≤ 8) ∧ tz.toInt + nn.toInt ≤ 400 ∧ tz2.toInt = tz.toInt + nn.toInt) ∧ r = tz2 ∧ bf2 = fdF wv bf tz.toInt (tz.toInt + nn.toInt))
theorem stFeed_eq {tz nn r tz2 q tz3 : Int32} {bf bf2 bf3 : Nat → Int32} {wv : Int64} (h : stFeed tz bf wv nn r tz2 bf2) (k : stFeed tz bf wv nn q tz3 bf3) : r = q ∧ tz2 = tz3 ∧ bf2 = bf3 := by
  rcases h with ⟨h1, h2, h3, h4⟩ | ⟨h1, h2, h3, h4⟩ | ⟨h1, h2, h4⟩ <;> rcases k with ⟨k1, k2, k3, k4⟩ | ⟨k1, k2, k3, k4⟩ | ⟨k1, k2, k4⟩ <;> first | exact ⟨h2.trans k2.symm, h3.trans k3.symm, h4.trans k4.symm⟩ | (exfalso; omega) | (have e : tz2 = tz3 := Int32.toInt_inj.mp (by omega); exact ⟨h2.trans (e.trans k2.symm), e, h4.trans k4.symm⟩)
def stCity (tz : Int32) (bf : Nat → Int32) (lt th : Int32) (g : Nat → Int) (r lt2 th2 : Int32) (g2 : Nat → Int) : Prop := (∃ p : Int32, RD (tx bf tz.toInt) = fltR lt2.toInt p.toInt ∧ r = (-1000100) - p ∧ th2 = th ∧ g2 = g) ∨ (∃ (w h : Int) (P F L H M : Nat → Int), RD (tx bf tz.toInt) = okR w h r.toInt P F L H M ∧ 1 ≤ w ∧ lt2 = lt ∧ th2 = 1 ∧ g2 = gT2 (tx bf tz.toInt))
theorem stCity_eq {tz lt th r lt2 th2 q lt3 th3 : Int32} {bf : Nat → Int32} {g g2 g3 : Nat → Int} (h : stCity tz bf lt th g r lt2 th2 g2) (k : stCity tz bf lt th g q lt3 th3 g3) : r = q ∧ lt2 = lt3 ∧ th2 = th3 ∧ g2 = g3 := by
  rcases h with ⟨p, h1, h2, h3, h5⟩ | ⟨w, h, P, F, L, H, M, h1, h2, h3, h4, h5⟩ <;> rcases k with ⟨p', k1, k2, k3, k5⟩ | ⟨w', h', P', F', L', H', M', k1, k2, k3, k4, k5⟩
  · rw [h1] at k1
    have e1 : lt2.toInt = lt3.toInt := congrArg (fun z => z.1) k1
    have e2 : p.toInt = p'.toInt := congrArg (fun z => z.2.1) k1
    rw [h2, k2, Int32.toInt_inj.mp e2]
    exact ⟨rfl, Int32.toInt_inj.mp e1, h3.trans k3.symm, h5.trans k5.symm⟩
  · rw [h1] at k1
    have e1 : 0 = w' := congrArg (fun z => z.2.2.1) k1
    omega
  · rw [h1] at k1
    have e1 : w = 0 := congrArg (fun z => z.2.2.1) k1
    omega
  · rw [h1] at k1
    have e1 : r.toInt = q.toInt := congrArg (fun z => z.2.2.2.2.1) k1
    exact ⟨Int32.toInt_inj.mp e1, h3.trans k3.symm, h4.trans k4.symm, h5.trans k5.symm⟩
def thC (th cw : Int32) : Prop := (th = 0 ∧ cw.toInt = 0) ∨ (th = 1 ∧ 1 ≤ cw.toInt)
def thK (k iw th : Int32) : Prop := (k = 0 ∧ iw.toInt = 0) ∨ (k = 1 ∧ 1 ≤ iw.toInt ∧ th = 1)
theorem stCity_x {f bf : Nat → Int32} {g : Nat → Int} {tz lt th r lt2 p w h n cw ch cp iw jw k0 k1 : Int32} {fc fp ff fl fh fm fg fd fb gc gp gf gl gh gm gq gd gb vn vs vm vf un us um uf : Nat → Int32} (hb : ∀ j : Nat, (j : Int) < tz.toInt → f j = bf j) (k : (RD (tx f tz.toInt) = fltR lt2.toInt p.toInt ∧ r = (-1000100) - p ∧ w = cw ∧ h = ch ∧ n = cp ∧ fc = gc ∧ fp = gp ∧ ff = gf ∧ fl = gl ∧ fh = gh ∧ fm = gm ∧ fg = gq ∧ fd = gd ∧ fb = gb ∧ vn = un ∧ vs = us ∧ vm = um ∧ vf = uf) ∨ (CIT (tx f tz.toInt) w.toInt h.toInt n.toInt fc fp ff fl fh fm fg fd fb ∧ r = n ∧ lt2 = lt ∧ VWs (gT2 (tx f tz.toInt)) vn vs vm vf)) (ht : thC th cw) (h0 : thK k0 iw th) (h1 : thK k1 jw th) (hg : CXs g cw ch cp gc gp gf gh gm) (hd : CXd g gl gq gd gb) (hv : (g 0 = 0 ∧ g 3 = 0) ∨ VWs g un us um uf) (h10 : w.toInt ≤ 10) (h8 : h.toInt ≤ 8) (h6 : n.toInt ≤ 6) : ∃ (th2 : Int32) (g2 : Nat → Int), stCity tz bf lt th g r lt2 th2 g2 ∧ thC th2 w ∧ thK k0 iw th2 ∧ thK k1 jw th2 ∧ CXs g2 w h n fc fp ff fh fm ∧ CXd g2 fl fg fd fb ∧ ((g2 0 = 0 ∧ g2 3 = 0) ∨ VWs g2 vn vs vm vf) := by
  rw [tx_eq hb] at k
  rcases k with ⟨q1, q2, rfl, rfl, rfl, rfl, rfl, rfl, rfl, rfl, rfl, rfl, rfl, rfl, rfl, rfl, rfl, rfl⟩ | ⟨q1, q2, q3, q4⟩
  · exact ⟨th, g, Or.inl ⟨p, q1, q2, rfl, rfl⟩, ht, h0, h1, hg, hd, hv⟩
  · refine ⟨1, gT2 (tx bf tz.toInt), Or.inr ⟨_, _, _, _, _, _, _, by rw [q2]; exact q1.1, q1.2.2.2.2.2, q3, rfl, rfl⟩, Or.inr ⟨rfl, q1.2.2.2.2.2⟩, ?_, ?_, (gT2_x q1 h10 h8 h6).1, (gT2_x q1 h10 h8 h6).2, Or.inr q4⟩
    · rcases h0 with z | z
      · exact Or.inl z
      · exact Or.inr ⟨z.1, z.2.1, rfl⟩
    · rcases h1 with z | z
      · exact Or.inl z
      · exact Or.inr ⟨z.1, z.2.1, rfl⟩
theorem stCity_y {f bf cy cy2 : Nat → Int32} {g : Nat → Int} {tz lt th r lt2 th2 p : Int32} (hb : ∀ j : Nat, (j : Int) < tz.toInt → f j = bf j) (k : (RD (tx f tz.toInt) = fltR lt2.toInt p.toInt ∧ r = (-1000100) - p ∧ cy2 = cy ∧ th2 = th) ∨ (CIm (tx f tz.toInt) cy2 ∧ r = cy2 3 ∧ lt2 = lt ∧ th2 = 1)) (hg : CYs g cy) (hd : CYd g cy) (hf : gF g) (h6 : (cy2 3).toInt ≤ 6) : ∃ g2 : Nat → Int, stCity tz bf lt th g r lt2 th2 g2 ∧ CYs g2 cy2 ∧ CYd g2 cy2 ∧ gF g2 := by
  rw [tx_eq hb] at k
  rcases k with ⟨k1, k2, rfl, k4⟩ | ⟨k1, k2, k3, k4⟩
  · exact ⟨g, Or.inl ⟨p, k1, k2, k4, rfl⟩, hg, hd, hf⟩
  · exact ⟨gT2 (tx bf tz.toInt), Or.inr ⟨_, _, _, _, _, _, _, by rw [k2]; exact k1.1, k1.2.2.2, k3, k4, rfl⟩, (gT2_y k1 h6).1, (gT2_y k1 h6).2, gT2_F _⟩
theorem CXd_cp {g : Nat → Int} {fl fg fd fb gl gq gd gb : Nat → Int32} (h : CXd g gl gq gd gb) (h1 : agr 6 fl gl) (h2 : agr 6 fg gq) (h3 : agr 36 fd gd) (h4 : agr 36 fb gb) (h6 : g 3 ≤ 6) : CXd g fl fg fd fb := by
  intro p hp
  have y := h p hp
  rw [h1 p (by omega), h2 p (by omega)]
  refine ⟨y.1, y.2.1, fun o ho => ?_⟩
  rw [h3 _ (by omega), h4 _ (by omega)]
  exact y.2.2 o ho
theorem im_yd {g g0 g1 : Nat → Int} {kp kp2 cy : Nat → Int32} {a : Int32} (h : imC kp cy a.toInt 192 kp2) (ha : 0 ≤ a.toInt ∧ a.toInt < 2) (hg : CYd g cy) (h0 : CYd g0 (fun j => kp (192 * 0 + j))) (h1 : CYd g1 (fun j => kp (192 * 1 + j))) (b : g 3 ≤ 6) (b0 : g0 3 ≤ 6) (b1 : g1 3 ≤ 6) (f : gF g) (f0 : gF g0) (f1 : gF g1) : CYd (if a.toInt = 0 then g else g0) (fun j => kp2 (192 * 0 + j)) ∧ CYd (if a.toInt = 1 then g else g1) (fun j => kp2 (192 * 1 + j)) ∧ gF (if a.toInt = 0 then g else g0) ∧ gF (if a.toInt = 1 then g else g1) := by
  rcases (show a.toInt = 0 ∨ a.toInt = 1 by omega) with q | q
  · rw [if_pos q, if_neg (by omega)]
    refine ⟨CYd_eq hg (fun j hj => ?_) b, CYd_eq h1 (fun j hj => ?_) b1, f, f1⟩
    · have z := h.1 j (by omega)
      rw [q] at z
      exact z
    · exact h.2 (192 * 1 + j) (by rw [q]; omega)
  · rw [if_neg (by omega), if_pos q]
    refine ⟨CYd_eq h0 (fun j hj => ?_) b0, CYd_eq hg (fun j hj => ?_) b, f0, f⟩
    · exact h.2 (192 * 0 + j) (by rw [q]; omega)
    · have z := h.1 j (by omega)
      rw [q] at z
      exact z
def stImage (th k0 k1 : Int32) (g g0 g1 : Nat → Int) (a r k02 k12 : Int32) (g02 g12 : Nat → Int) : Prop := (¬ (0 ≤ a.toInt ∧ a.toInt < 2) ∧ r = -1000001 ∧ k02 = k0 ∧ k12 = k1 ∧ g02 = g0 ∧ g12 = g1) ∨ ((0 ≤ a.toInt ∧ a.toInt < 2 ∧ th.toInt = 0) ∧ r = -1000002 ∧ k02 = k0 ∧ k12 = k1 ∧ g02 = g0 ∧ g12 = g1) ∨ ((0 ≤ a.toInt ∧ a.toInt < 2 ∧ ¬ th.toInt = 0) ∧ r = 1 ∧ k02 = (if a.toInt = 0 then 1 else k0) ∧ k12 = (if a.toInt = 1 then 1 else k1) ∧ g02 = (if a.toInt = 0 then g else g0) ∧ g12 = (if a.toInt = 1 then g else g1))
theorem stImage_eq {th k0 k1 a r k02 k12 q k03 k13 : Int32} {g g0 g1 g02 g12 g03 g13 : Nat → Int} (h : stImage th k0 k1 g g0 g1 a r k02 k12 g02 g12) (k : stImage th k0 k1 g g0 g1 a q k03 k13 g03 g13) : r = q ∧ k02 = k03 ∧ k12 = k13 ∧ g02 = g03 ∧ g12 = g13 := by
  rcases h with ⟨h1, h2, h3, h4, h5, h6⟩ | ⟨h1, h2, h3, h4, h5, h6⟩ | ⟨h1, h2, h3, h4, h5, h6⟩ <;> rcases k with ⟨q1, q2, q3, q4, q5, q6⟩ | ⟨q1, q2, q3, q4, q5, q6⟩ | ⟨q1, q2, q3, q4, q5, q6⟩ <;> first | exact ⟨h2.trans q2.symm, h3.trans q3.symm, h4.trans q4.symm, h5.trans q5.symm, h6.trans q6.symm⟩ | (exfalso; omega)
def stRestore (k0 k1 : Int32) (g g0 g1 : Nat → Int) (a r : Int32) (g2 : Nat → Int) : Prop := (¬ (0 ≤ a.toInt ∧ a.toInt < 2) ∧ r = -1000001 ∧ g2 = g) ∨ ((a.toInt = 0 ∧ k0.toInt = 0) ∧ r = -1000002 ∧ g2 = g) ∨ ((a.toInt = 0 ∧ ¬ k0.toInt = 0) ∧ r = 1 ∧ g2 = g0) ∨ ((a.toInt = 1 ∧ k1.toInt = 0) ∧ r = -1000002 ∧ g2 = g) ∨ ((a.toInt = 1 ∧ ¬ k1.toInt = 0) ∧ r = 1 ∧ g2 = g1)
theorem stRestore_eq {k0 k1 a r q : Int32} {g g0 g1 g2 g3 : Nat → Int} (h : stRestore k0 k1 g g0 g1 a r g2) (k : stRestore k0 k1 g g0 g1 a q g3) : r = q ∧ g2 = g3 := by
  rcases h with ⟨h1, h2, h3⟩ | ⟨h1, h2, h3⟩ | ⟨h1, h2, h3⟩ | ⟨h1, h2, h3⟩ | ⟨h1, h2, h3⟩ <;> rcases k with ⟨q1, q2, q3⟩ | ⟨q1, q2, q3⟩ | ⟨q1, q2, q3⟩ | ⟨q1, q2, q3⟩ | ⟨q1, q2, q3⟩ <;> first | exact ⟨h2.trans q2.symm, h3.trans q3.symm⟩ | (exfalso; omega)
theorem CXs_cp {g : Nat → Int} {cw ch cp iw ih ip : Int32} {fc fp ff fh fm gc gp gf gh gm : Nat → Int32} (h : CXs g iw ih ip gc gp gf gh gm) (e : cw = iw ∧ ch = ih ∧ cp = ip) (h1 : agr 80 fc gc) (h2 : agr 6 fp gp) (h3 : agr 6 ff gf) (h4 : agr 6 fh gh) (h5 : agr 6 fm gm) (h6 : ip.toInt ≤ 6) : CXs g cw ch cp fc fp ff fh fm := by
  have e3 := h.2.2.1
  refine ⟨by rw [e.1]; exact h.1, by rw [e.2.1]; exact h.2.1, by rw [e.2.2]; exact e3, fun c hc hi => ?_, fun j hj => ?_, fun j hj => ?_, fun p hp => ?_, fun p hp => ?_⟩
  · rw [h1 c hc]; exact h.2.2.2.1 c hc hi
  · rw [h2 j hj]; exact h.2.2.2.2.1 j hj
  · rw [h3 j hj]; exact h.2.2.2.2.2.1 j hj
  · rw [h4 p (by omega)]; exact h.2.2.2.2.2.2.1 p hp
  · rw [h5 p (by omega)]; exact h.2.2.2.2.2.2.2 p hp
theorem CXs_wl {g : Nat → Int} {cw ch cp : Int32} {fc fc2 fp ff fh fm : Nat → Int32} (h : CXs g cw ch cp fc fp ff fh fm) (h1 : agr 80 fc2 fc) : CXs g cw ch cp fc2 fp ff fh fm :=
  ⟨h.1, h.2.1, h.2.2.1, fun c hc hi => by rw [h1 c hc]; exact h.2.2.2.1 c hc hi, h.2.2.2.2⟩
theorem gOK_of {g : Nat → Int} {cy : Nat → Int32} (h : prd cyK 192 cy) (hc : CYs g cy) : gOK g := by
  have q0 := (h 0 (by decide)).1 rfl
  have q1 := (h 1 (by decide)).2.1 rfl
  have q3 := (h 3 (by decide)).2.2.2.1 rfl
  rw [hc.1 0 (by omega)] at q0
  rw [hc.1 1 (by omega)] at q1
  rw [hc.1 3 (by omega)] at q3
  refine ⟨q0, q1, q3, fun c hcc hi => ?_⟩
  have z := (h (4 + c) (by omega)).2.2.2.2.1 (by omega) (by omega)
  rw [hc.2.1 c hcc hi] at z
  exact z
theorem CYs_eq {g : Nat → Int} {cy cy2 : Nat → Int32} (h : CYs g cy) (e : ∀ j : Nat, j < 192 → cy2 j = cy j) (h3 : g 3 ≤ 6) : CYs g cy2 := CYs_oE h (fun j hj _ => e j hj) h3
theorem kp_3 {g : Nat → Int} {kp : Nat → Int32} {a : Nat} (ha : a < 2) (h : prd kpK 384 kp) (hc : CYs g (fun j => kp (192 * a + j))) : g 3 ≤ 6 := by
  have z := h (192 * a + 3) (by omega)
  unfold kpK at z
  rw [show (192 * a + 3) % 192 = 3 from by omega] at z
  have q := z.2.2.2.1 rfl
  have e : (kp (192 * a + 3)).toInt = g 3 := hc.1 3 (by omega)
  omega
theorem im_y {g g0 g1 : Nat → Int} {kp kp2 cy : Nat → Int32} {a : Int32} (h : imC kp cy a.toInt 192 kp2) (ha : 0 ≤ a.toInt ∧ a.toInt < 2) (hp : prd kpK 384 kp) (hc : prd cyK 192 cy) (hg : CYs g cy) (h0 : CYs g0 (fun j => kp (192 * 0 + j))) (h1 : CYs g1 (fun j => kp (192 * 1 + j))) : CYs (if a.toInt = 0 then g else g0) (fun j => kp2 (192 * 0 + j)) ∧ CYs (if a.toInt = 1 then g else g1) (fun j => kp2 (192 * 1 + j)) := by
  have b := gOK_of hc hg
  have b0 := kp_3 (by decide) hp h0
  have b1 := kp_3 (by decide) hp h1
  rcases (show a.toInt = 0 ∨ a.toInt = 1 by omega) with q | q
  · rw [if_pos q, if_neg (by omega)]
    refine ⟨CYs_eq hg (fun j hj => ?_) b.2.2.1.2, CYs_eq h1 (fun j hj => ?_) b1⟩
    · have z := h.1 j (by omega)
      rw [q] at z
      exact z
    · exact h.2 (192 * 1 + j) (by rw [q]; omega)
  · rw [if_neg (by omega), if_pos q]
    refine ⟨CYs_eq h0 (fun j hj => ?_) b0, CYs_eq hg (fun j hj => ?_) b.2.2.1.2⟩
    · exact h.2 (192 * 0 + j) (by rw [q]; omega)
    · have z := h.1 j (by omega)
      rw [q] at z
      exact z
theorem thC_0 {th cw : Int32} (h : thC th cw) : cw.toInt = 0 ↔ th.toInt = 0 := by
  rcases h with ⟨rfl, h⟩ | ⟨rfl, h⟩
  · exact ⟨fun _ => rfl, fun _ => h⟩
  · exact ⟨fun z => absurd z (by omega), fun z => absurd z (by decide)⟩
theorem thK_0 {k iw th : Int32} (h : thK k iw th) : iw.toInt = 0 ↔ k.toInt = 0 := by
  rcases h with ⟨rfl, h⟩ | ⟨rfl, h, _⟩
  · exact ⟨fun _ => rfl, fun _ => h⟩
  · exact ⟨fun z => absurd z (by omega), fun z => absurd z (by decide)⟩
theorem thK_1 {th cw iw : Int32} (h : thC th cw) (hn : ¬ cw.toInt = 0) (e : iw = cw) : thK 1 iw th := by
  rcases h with ⟨rfl, h⟩ | ⟨rfl, h⟩
  · exact absurd h hn
  · exact Or.inr ⟨rfl, by rw [e]; exact h, rfl⟩
theorem thC_1 {k th cw iw : Int32} (h : thK k iw th) (hn : ¬ iw.toInt = 0) (e : cw = iw) : thC th cw := by
  rcases h with ⟨rfl, h⟩ | ⟨rfl, h, h2⟩
  · exact absurd h hn
  · exact Or.inr ⟨h2, by rw [e]; exact h⟩
theorem re_y {ik : Nat → Int32} {k0 k1 a r : Int32} {g g0 g1 : Nat → Int} {kp cy cy2 : Nat → Int32} (h : ik 0 = k0 ∧ ik 1 = k1) (hp : prd kpK 384 kp) (hg : CYs g cy ∧ CYd g cy ∧ gF g) (h0 : CYs g0 (fun j => kp (192 * 0 + j)) ∧ CYd g0 (fun j => kp (192 * 0 + j)) ∧ gF g0) (h1 : CYs g1 (fun j => kp (192 * 1 + j)) ∧ CYd g1 (fun j => kp (192 * 1 + j)) ∧ gF g1) (ha : (0 ≤ a.toInt ∧ a.toInt < 2) ∧ (((ik a.toNatClampNeg).toInt = 0 ∧ r = -1000002 ∧ cy2 = cy) ∨ (¬ (ik a.toNatClampNeg).toInt = 0 ∧ r = 1 ∧ reC kp a.toInt 192 cy2))) : ∃ g2 : Nat → Int, stRestore k0 k1 g g0 g1 a r g2 ∧ CYs g2 cy2 ∧ CYd g2 cy2 ∧ gF g2 := by
  obtain ⟨ha, hz⟩ := ha
  have b0 := kp_3 (by decide) hp h0.1
  have b1 := kp_3 (by decide) hp h1.1
  rcases (show a.toInt = 0 ∨ a.toInt = 1 by omega) with q | q
  · rw [show a.toNatClampNeg = 0 from by show a.toInt.toNat = 0; omega, h.1] at hz
    rcases hz with ⟨z1, z2, rfl⟩ | ⟨z1, z2, z3⟩
    · exact ⟨g, Or.inr (Or.inl ⟨⟨q, z1⟩, z2, rfl⟩), hg⟩
    · have e : ∀ j : Nat, j < 192 → cy2 j = (fun j => kp (192 * 0 + j)) j := fun j hj => by
        have y := z3 j (by omega)
        rw [q] at y
        exact y
      exact ⟨g0, Or.inr (Or.inr (Or.inl ⟨⟨q, z1⟩, z2, rfl⟩)), CYs_eq h0.1 e b0, CYd_eq h0.2.1 e b0, h0.2.2⟩
  · rw [show a.toNatClampNeg = 1 from by show a.toInt.toNat = 1; omega, h.2] at hz
    rcases hz with ⟨z1, z2, rfl⟩ | ⟨z1, z2, z3⟩
    · exact ⟨g, Or.inr (Or.inr (Or.inr (Or.inl ⟨⟨q, z1⟩, z2, rfl⟩))), hg⟩
    · have e : ∀ j : Nat, j < 192 → cy2 j = (fun j => kp (192 * 1 + j)) j := fun j hj => by
        have y := z3 j (by omega)
        rw [q] at y
        exact y
      exact ⟨g1, Or.inr (Or.inr (Or.inr (Or.inr ⟨⟨q, z1⟩, z2, rfl⟩))), CYs_eq h1.1 e b1, CYd_eq h1.2.1 e b1, h1.2.2⟩
theorem stPrice_x {th cw ch cp a v r : Int32} {g : Nat → Int} {fc fp ff fh fm : Nat → Int32} (hg : CXs g cw ch cp fc fp ff fh fm) (ht : thC th cw) (h : ¬ cw.toInt = 0 ∧ 0 ≤ a.toInt ∧ a.toInt < 6 ∧ 0 ≤ v.toInt ∧ v.toInt ≤ 99) (hr : r = fp a.toNatClampNeg) : stPrice th g a v r (updI g (84 + a.toInt) v.toInt) := by
  have z := thC_0 ht
  refine Or.inr (Or.inr ⟨⟨fun q => h.1 (z.mpr q), h.2⟩, ?_, rfl⟩)
  rw [hr]
  exact hg.2.2.2.2.1 a.toInt.toNat (by omega)
theorem stPrice_y {th a v r : Int32} {g : Nat → Int} {cy cy2 : Nat → Int32} (hg : CYs g cy) (go : gOK g) (h : ¬ th.toInt = 0 ∧ 0 ≤ a.toInt ∧ a.toInt < 6 ∧ 0 ≤ v.toInt ∧ v.toInt ≤ 99) (k : ∃ i : Int32, i.toInt = 84 + a.toInt ∧ r = cy i.toNatClampNeg ∧ cy2 = upd cy i.toNatClampNeg v) : stPrice th g a v r (updI g (84 + a.toInt) v.toInt) ∧ CYs (updI g (84 + a.toInt) v.toInt) cy2 := by
  obtain ⟨i, h1, h2, h3⟩ := k
  have h4 : i.toNatClampNeg = i.toInt.toNat := rfl
  refine ⟨Or.inr (Or.inr ⟨h, ?_, rfl⟩), CYs_price hg h3 h1 (by omega) go.2.2.1.2⟩
  rw [h2, h4, show i.toInt.toNat = 84 + a.toInt.toNat from by omega]
  exact hg.1 _ (by omega)
theorem stAs_q {g : Nat → Int} {k kd r : Int32} {P : Int → Prop} (hi : insK g k.toInt ∧ 0 ≤ kd.toInt ∧ kd.toInt < 6) (hP : ∀ q : Int, P q → q = kdT g k.toInt.toNat) (h : ((∃ q : Int, P q ∧ ¬ isP q kd.toInt) ∧ r = -1000013) ∨ ((∃ q : Int, P q ∧ isP q kd.toInt) ∧ r = k)) : stAs g k kd r := by
  refine Or.inr ⟨hi, ?_⟩
  rcases h with ⟨⟨q, h1, h2⟩, h3⟩ | ⟨⟨q, h1, h2⟩, h3⟩
  · rw [hP q h1] at h2
    exact Or.inl ⟨h2, h3⟩
  · rw [hP q h1] at h2
    exact Or.inr ⟨h2, h3⟩
theorem imK {ik ik2 : Nat → Int32} {k0 k1 a : Int32} (h : ik 0 = k0 ∧ ik 1 = k1) (e : ik2 = upd ik a.toNatClampNeg 1) (ha : 0 ≤ a.toInt ∧ a.toInt < 2) : ik2 0 = (if a.toInt = 0 then 1 else k0) ∧ ik2 1 = (if a.toInt = 1 then 1 else k1) := by
  have h3 : a.toNatClampNeg = a.toInt.toNat := rfl
  rw [e]
  refine ⟨?_, ?_⟩
  · show (if 0 = a.toNatClampNeg then 1 else ik 0) = _
    rcases (show a.toInt = 0 ∨ a.toInt = 1 by omega) with q | q
    · rw [if_pos (by omega), if_pos q]
    · rw [if_neg (by omega), if_neg (by omega), h.1]
  · show (if 1 = a.toNatClampNeg then 1 else ik 1) = _
    rcases (show a.toInt = 0 ∨ a.toInt = 1 by omega) with q | q
    · rw [if_neg (by omega), if_neg (by omega), h.2]
    · rw [if_pos (by omega), if_pos q]
theorem no_j {P : Nat → Prop} : ∀ j : Nat, (j : Int) < (0 : Int32).toInt → P j := fun j hj => absurd (show (j : Int) < 0 from hj) (by omega)
theorem stAsk_x {g : Nat → Int} {cw ch cp k wa r tc tc2 : Int32} {fc fp ff fh fm fbo fbo2 : Nat → Int32} (hg : CXs g cw ch cp fc fp ff fh fm) (go : gOK g) (hr : ∀ c : Nat, c < 80 → -1 ≤ (fc c).toInt ∧ (fc c).toInt ≤ 8) (hi0 : 0 ≤ k.toInt ∧ k.toInt % 10 < cw.toInt ∧ k.toInt / 10 < ch.toInt ∧ 0 ≤ wa.toInt ∧ wa.toInt < 2) (hB : ∃ ob pr sz mk bd : Int32, ob.toInt = cnA (obX cw.toInt ch.toInt fc k.toInt) 8 ∧ ((0 ≤ k.toInt ∧ k.toInt % 10 < cw.toInt ∧ k.toInt / 10 < ch.toInt ∧ 3 ≤ (fc k.toInt.toNat).toInt ∧ pr.toInt = (fp ((fc k.toInt.toNat).toInt - 3).toNat).toInt) ∨ (¬ (0 ≤ k.toInt ∧ k.toInt % 10 < cw.toInt ∧ k.toInt / 10 < ch.toInt ∧ 3 ≤ (fc k.toInt.toNat).toInt) ∧ pr.toInt = 0)) ∧ fbX cw.toInt ch.toInt fc fp k.toInt 0 sz ∧ fbX cw.toInt ch.toInt fc fp k.toInt 1 mk ∧ fbX cw.toInt ch.toInt fc fp k.toInt wa.toInt bd ∧ r = bgV ob k pr sz mk 21 bd ∧ (tc2, fbo2) = bgT sz mk 21 bd (0, fbo)) : stAsk g k wa r (tc, fbo) (tc2, fbo2) := by
  have hi : (0 ≤ k.toInt ∧ k.toInt % 10 < cw.toInt ∧ k.toInt / 10 < ch.toInt) ∧ 0 ≤ wa.toInt ∧ wa.toInt < 2 := by omega
  obtain ⟨ob, pr, sz, mk, bd, h1, h2, ⟨q, h3, h3'⟩, ⟨q2, h4, h4'⟩, ⟨q3, h5, h5'⟩, h6, h7⟩ := hB
  have e2 := kdX_u h4 h3
  have e3 := kdX_u h5 h3
  subst e2 e3
  have ek := kdX_g hg go hi.1 hr h3
  have es : sz = szB q3 := by
    rcases h3' with z | z
    · exact z.2
    · exact absurd rfl z.1
  have em : mk = mkB q3 := by
    rcases h4' with z | z
    · exact absurd z.1 (by decide)
    · exact z.2
  have eb : bd = if wa.toInt = 0 then szB q3 else mkB q3 := by
    rcases h5' with z | z
    · rw [if_pos z.1]; exact z.2
    · rw [if_neg z.1]; exact z.2
  have hq : 1 ≤ q3 ∧ q3 ≤ 5 := by unfold kdX at h3; omega
  have a := ask_x (ob := ob) (c := k) (pr := pr) (p := ((0 : Int32), fbo)) hq (show wa.toInt = 0 ∨ wa.toInt = 1 by omega)
  subst es em eb
  refine Or.inr ⟨⟨(insX hg).mp hi.1, hi.2⟩, ob, pr, h1.trans (obX_G hg go _), fun z => ?_, ?_, ?_⟩
  · have g0 := go.1
    have g1 := go.2.1
    have c0 := hg.1
    have c1 := hg.2.1
    have hin : insG g k.toInt.toNat := by unfold insG; omega
    have e := hg.2.2.2.1 k.toInt.toNat (by omega) hin
    have b := go.2.2.2 k.toInt.toNat (by omega) hin
    have p := hg.2.2.2.2.1 ((fc k.toInt.toNat).toInt - 3).toNat (by omega)
    rw [show (g (4 + k.toInt.toNat)).toNat = ((fc k.toInt.toNat).toInt - 3).toNat from by omega]
    rcases h2 with y | y
    · omega
    · exact absurd (show 0 ≤ k.toInt ∧ k.toInt % 10 < cw.toInt ∧ k.toInt / 10 < ch.toInt ∧ 3 ≤ (fc k.toInt.toNat).toInt by omega) y.1
  · rw [← ek]
    exact h6.trans a.1
  · rw [← ek]
    exact h7.trans a.2
theorem stAsk_y {g : Nat → Int} {k wa r td td2 : Int32} {cy tr tr2 : Nat → Int32} (hg : CYs g cy) (go : gOK g) (hi0 : 0 ≤ k.toInt ∧ k.toInt < 80 ∧ k.toInt % 10 < (cy 0).toInt ∧ k.toInt / 10 < (cy 1).toInt ∧ 0 ≤ wa.toInt ∧ wa.toInt < 2) (hB : ∃ (ob pr : Int32) (q : Int), ob.toInt = cnA (obY cy k.toInt) 8 ∧ ((q = 3 ∨ q = 5) → pr = (cy (84 + (cy (4 + k.toInt.toNat)).toInt.toNat))) ∧ kdY cy k.toInt q ∧ r = askV q ob k pr wa.toInt ∧ (td2, tr2) = askT q wa.toInt (0, tr)) : stAsk g k wa r (td, tr) (td2, tr2) := by
  have hi : (0 ≤ k.toInt ∧ k.toInt < 80 ∧ k.toInt % 10 < (cy 0).toInt ∧ k.toInt / 10 < (cy 1).toInt) ∧ 0 ≤ wa.toInt ∧ wa.toInt < 2 := by omega
  obtain ⟨ob, pr, q, h1, h2, h3, h4, h5⟩ := hB
  have ek := kdY_g hg go hi.1 h3
  refine Or.inr ⟨⟨(insY hg go).mp hi.1, hi.2⟩, ob, pr, h1.trans (obY_G hg go _), fun z => ?_, ?_, ?_⟩
  · have g0 := go.1
    have g1 := go.2.1
    have c0 := hg.1 0 (by omega)
    have c1 := hg.1 1 (by omega)
    have hin : insG g k.toInt.toNat := by unfold insG; omega
    have e := hg.2.1 k.toInt.toNat (by omega) hin
    have b := go.2.2.2 k.toInt.toNat (by omega) hin
    have p := hg.1 (84 + (cy (4 + k.toInt.toNat)).toInt.toNat) (by omega)
    rw [h2 (by unfold kdY at h3; omega), p, e]
  · rw [← ek]
    exact h4
  · rw [← ek]
    exact h5
def stTrace (tn : Int32) (tb : Nat → Int32) (i r : Int32) : Prop := (¬ (0 ≤ i.toInt ∧ i.toInt < tn.toInt) ∧ r = -1000000) ∨ ((0 ≤ i.toInt ∧ i.toInt < tn.toInt) ∧ r = tb i.toNatClampNeg)
theorem stTrace_eq {tn i r q : Int32} {tb : Nat → Int32} (h : stTrace tn tb i r) (k : stTrace tn tb i q) : r = q := by
  rcases h with ⟨h1, h2⟩ | ⟨h1, h2⟩ <;> rcases k with ⟨k1, k2⟩ | ⟨k1, k2⟩
  · exact h2.trans k2.symm
  · exact absurd k1 h1
  · exact absurd h1 k1
  · exact h2.trans k2.symm
theorem CXs_zero : CXs (fun _ => 0) 0 0 0 (fun _ => 0) (fun _ => 0) (fun _ => 0) (fun _ => 0) (fun _ => 0) := by
  refine ⟨rfl, rfl, rfl, fun c _ hi => ?_, fun _ _ => rfl, fun _ _ => rfl, fun _ _ => rfl, fun _ _ => rfl⟩
  have h1 : (c : Int) % 10 < 0 := hi.1
  omega
theorem CXd_zero : CXd (fun _ => 0) (fun _ => 0) (fun _ => 0) (fun _ => 0) (fun _ => 0) := fun _ _ => ⟨rfl, rfl, fun _ _ => ⟨rfl, rfl⟩⟩
theorem CYd_zero : CYd (fun _ => 0) (fun _ => 0) := fun _ _ => ⟨rfl, rfl, fun _ _ => ⟨rfl, rfl⟩⟩
theorem gF_zero : gF (fun _ => 0) := fun _ _ => Or.inl rfl
theorem CYs_zero : CYs (fun _ => 0) (fun _ => 0) := ⟨fun _ _ => rfl, fun _ _ _ => rfl, fun _ _ => ⟨rfl, rfl⟩⟩
theorem upd_lr {f : Nat → Int32} {k : Nat} {v : Int32} (h : ∀ j : Nat, j < 8 → -1 ≤ (f j).toInt) (hv : -1 ≤ v.toInt) : ∀ j : Nat, j < 8 → -1 ≤ (upd f k v j).toInt := by
  intro j hj
  show -1 ≤ (if j = k then v else f j).toInt
  split
  · exact hv
  · exact h j hj
theorem upd_cg {f g : Nat → Int32} {k : Nat} {v : Int32} (h : ∀ j : Nat, j < 8 → f j = g j) : ∀ j : Nat, j < 8 → upd f k v j = upd g k v j := by
  intro j hj
  show (if j = k then v else f j) = (if j = k then v else g j)
  rw [h j hj]
theorem upd_cm {ma ln sn : Nat → Int32} {k : Nat} {b v : Int32} (h : ∀ j : Nat, j < 8 → 0 ≤ (ln j).toInt → ma j = sn j) : ∀ j : Nat, j < 8 → 0 ≤ (upd ln k b j).toInt → upd ma k v j = upd sn k v j := by
  intro j hj
  show 0 ≤ (if j = k then b else ln j).toInt → (if j = k then v else ma j) = (if j = k then v else sn j)
  by_cases q : j = k
  · intro _
    rw [if_pos q, if_pos q]
  · rw [if_neg q, if_neg q, if_neg q]
    exact h j hj
theorem upd_cd {ma ln sn : Nat → Int32} {k : Nat} {v : Int32} (h : ∀ j : Nat, j < 8 → 0 ≤ (ln j).toInt → ma j = sn j) : ∀ j : Nat, j < 8 → 0 ≤ (upd ln k (-1) j).toInt → ma j = upd sn k v j := by
  intro j hj
  show 0 ≤ (if j = k then (-1 : Int32) else ln j).toInt → ma j = (if j = k then v else sn j)
  by_cases q : j = k
  · rw [if_pos q]
    intro z
    exact absurd z (by decide)
  · rw [if_neg q, if_neg q]
    exact h j hj
def fzA (fz r : Int32) : Int32 := if r = -1000001 then fz else if r = -1000013 then 3 else 0
theorem fzA_0 {fz r : Int32} {k : Int32} (h : r = k) (h0 : 0 ≤ k.toInt) : (0 : Int32) = fzA fz r := by
  have a : ¬ r = -1000001 := by
    intro z
    rw [← h, z] at h0
    exact absurd h0 (by decide)
  have b : ¬ r = -1000013 := by
    intro z
    rw [← h, z] at h0
    exact absurd h0 (by decide)
  unfold fzA
  rw [if_neg a, if_neg b]
theorem fzA_3 {fz r : Int32} (h : r = -1000013) : (3 : Int32) = fzA fz r := by subst h; rfl
theorem fzA_b {fz r : Int32} (h : r = -1000001) : fz = fzA fz r := by subst h; rfl
theorem it_walk {iz f : Nat → Int32} {b i : Int32} {r n : Nat} (h : itR iz f r) (hb : b.toNatClampNeg = r) (h0 : 0 ≤ i.toInt) (hn : i.toInt + n ≤ 40) : ∀ j : Nat, j < n → f (i.toInt.toNat + j) = itW iz b i j := by
  intro j hj
  have h3 : i.toNatClampNeg = i.toInt.toNat := rfl
  rw [h _ (by omega)]
  unfold itW
  rw [hb, h3, Nat.add_assoc]
theorem mg_walk {g : Nat → Int} {iz f : Nat → Int32} {a b i nn : Int32} {m : Int} (hm : m = g (98 + 4 * a.toInt.toNat)) (h0 : 0 ≤ i.toInt) (he : ∀ j : Nat, j < nn.toInt.toNat → f (i.toInt.toNat + j) = itW iz b i j) : mgS m f i.toInt (i.toInt + nn.toInt) ↔ mgW g iz a b i nn := by
  constructor
  · intro z j hj
    have y := z (i.toInt.toNat + j) (by omega) (by omega)
    rw [he j hj, hm] at y
    exact y
  · intro z j h1 h2
    have y := z (j - i.toInt.toNat) (by omega)
    have e := he (j - i.toInt.toNat) (by omega)
    rw [show i.toInt.toNat + (j - i.toInt.toNat) = j from by omega] at e
    rw [e, hm]
    exact y
theorem itm_walk {ln iz it : Nat → Int32} {b i : Int32} {n : Nat} (h : itM ln iz it) (hb : 0 ≤ b.toInt ∧ b.toInt < 8) (hl : 0 ≤ (ln b.toNatClampNeg).toInt) (h0 : 0 ≤ i.toInt) (hn : i.toInt + n ≤ 40) : ∀ j : Nat, j < n → it (40 * b.toInt.toNat + i.toInt.toNat + j) = itW iz b i j := by
  intro j hj
  have h2 : b.toNatClampNeg = b.toInt.toNat := rfl
  have h3 : i.toNatClampNeg = i.toInt.toNat := rfl
  have z := h b.toInt.toNat (i.toInt.toNat + j) (by omega) (by omega) hl
  rw [← Nat.add_assoc] at z
  unfold itW
  rw [h2, h3]
  exact z
theorem mgm_walk {g : Nat → Int} {iz it : Nat → Int32} {a b i nn : Int32} (h0 : 0 ≤ i.toInt) (hb : 0 ≤ b.toInt) (he : ∀ j : Nat, j < nn.toInt.toNat → it (40 * b.toInt.toNat + i.toInt.toNat + j) = itW iz b i j) : mgS (g (98 + 4 * a.toInt.toNat)) it (40 * b.toInt + i.toInt) (40 * b.toInt + i.toInt + nn.toInt) ↔ mgW g iz a b i nn := by
  constructor
  · intro z j hj
    have y := z (40 * b.toInt.toNat + i.toInt.toNat + j) (by omega) (by omega)
    rw [he j hj] at y
    exact y
  · intro z j h1 h2
    have y := z (j - (40 * b.toInt.toNat + i.toInt.toNat)) (by omega)
    have e := he (j - (40 * b.toInt.toNat + i.toInt.toNat)) (by omega)
    rw [show 40 * b.toInt.toNat + i.toInt.toNat + (j - (40 * b.toInt.toNat + i.toInt.toNat)) = j from by omega] at e
    rw [e]
    exact y
theorem itM_zb {ln ln2 iz it it2 : Nat → Int32} {a : Nat} (h : itM ln iz it) (e : ∀ k : Nat, it2 k = zbI it a k) (hl : ∀ r : Nat, r < 8 → ¬ r = a → ln2 r = ln r) : itM ln2 (zbI iz a) it2 := by
  intro r k hr hk h0
  rw [e]
  show (if (40 * r + k) / 40 = a then 0 else it (40 * r + k)) = (if (40 * r + k) / 40 = a then 0 else iz (40 * r + k))
  by_cases q : (40 * r + k) / 40 = a
  · rw [if_pos q, if_pos q]
  · rw [if_neg q, if_neg q]
    exact h r k hr hk (by rw [← hl r hr (by omega)]; exact h0)
theorem itM_dr {ln ln2 iz it : Nat → Int32} {a : Nat} (h : itM ln iz it) (hl : ∀ r : Nat, r < 8 → ¬ r = a → ln2 r = ln r) (ha : (ln2 a).toInt < 0) : itM ln2 (zbI iz a) it := by
  intro r k hr hk h0
  have hra : ¬ r = a := fun z => by rw [z] at h0; omega
  show it (40 * r + k) = (if (40 * r + k) / 40 = a then 0 else iz (40 * r + k))
  rw [if_neg (by omega)]
  exact h r k hr hk (by rw [← hl r hr hra]; exact h0)
theorem itM_ub {ln iz it it2 : Nat → Int32} {a i : Nat} {v : Int32} (h : itM ln iz it) (e : it2 = ubI it a i v) : itM ln (ubI iz a i v) it2 := by
  intro r k hr hk h0
  rw [e]
  show (if 40 * r + k = 40 * a + i then v else it (40 * r + k)) = (if 40 * r + k = 40 * a + i then v else iz (40 * r + k))
  rw [h r k hr hk h0]
theorem itM_cp {ln iz it it2 : Nat → Int32} {a i b j n : Nat} (h : itM ln iz it) (e : ∀ k : Nat, it2 k = cpI it a i b j n k) (ha : a < 8) (hl : 0 ≤ (ln a).toInt) (hi : i + n ≤ 40) (hj : j + n ≤ 40) : itM ln (cpI iz a i b j n) it2 := by
  intro r k hr hk h0
  rw [e]
  show (if 40 * b + j ≤ 40 * r + k ∧ 40 * r + k < 40 * b + j + n then it (40 * a + i + (40 * r + k - (40 * b + j))) else it (40 * r + k)) = (if 40 * b + j ≤ 40 * r + k ∧ 40 * r + k < 40 * b + j + n then iz (40 * a + i + (40 * r + k - (40 * b + j))) else iz (40 * r + k))
  by_cases q : 40 * b + j ≤ 40 * r + k ∧ 40 * r + k < 40 * b + j + n
  · rw [if_pos q, if_pos q]
    have z := h a (i + (40 * r + k - (40 * b + j))) ha (by omega) hl
    rw [← Nat.add_assoc] at z
    exact z
  · rw [if_neg q, if_neg q]
    exact h r k hr hk h0
theorem upd_o {f : Nat → Int32} {a : Nat} {v : Int32} : ∀ r : Nat, r < 8 → ¬ r = a → upd f a v r = f r := fun r _ h => if_neg h
theorem on_x {g : Nat → Int} {cw ch cp a : Int32} {fc fp ff fh fm : Nat → Int32} (h : CXs g cw ch cp fc fp ff fh fm) : (0 ≤ a.toInt ∧ a.toInt < cp.toInt) ↔ onG g a.toInt := by
  unfold onG
  rw [h.2.2.1]
theorem on_y {g : Nat → Int} {cy : Nat → Int32} {a : Int32} (h : CYs g cy) : (0 ≤ a.toInt ∧ a.toInt < (cy 3).toInt) ↔ onG g a.toInt := by
  unfold onG
  rw [h.1 3 (by omega)]
theorem pers_x {g : Nat → Int} {cw ch cp a wa r : Int32} {fc fp ff fh fm fl fg fd fb : Nat → Int32} (h : CXs g cw ch cp fc fp ff fh fm) (hd : CXd g fl fg fd fb) (ho : 0 ≤ a.toInt ∧ a.toInt < cp.toInt) (hp : (10 ≤ wa.toInt ∧ wa.toInt ≤ 15 ∧ r.toInt = (fd (6 * a.toInt.toNat + (wa.toInt - 10).toNat)).toInt) ∨ (20 ≤ wa.toInt ∧ wa.toInt ≤ 25 ∧ r.toInt = (fb (6 * a.toInt.toNat + (wa.toInt - 20).toNat)).toInt) ∨ (wa.toInt = 0 ∧ r.toInt = (fl a.toInt.toNat).toInt) ∨ (wa.toInt = 1 ∧ r.toInt = (fh a.toInt.toNat).toInt) ∨ (wa.toInt = 2 ∧ r.toInt = (fm a.toInt.toNat).toInt) ∨ (wa.toInt = 4 ∧ r.toInt = (fg a.toInt.toNat).toInt) ∨ (wa.toInt = 3 ∧ r = smO (fun o : Nat => (fd (6 * a.toInt.toNat + o)).toInt) 6) ∨ ((wa.toInt < 0 ∨ (4 < wa.toInt ∧ wa.toInt < 10) ∨ (15 < wa.toInt ∧ wa.toInt < 20) ∨ 25 < wa.toInt) ∧ r.toInt = -1000001)) : stPerson g a wa r := by
  have e3 := h.2.2.1
  have y := hd a.toInt.toNat (by omega)
  refine Or.inr ⟨(on_x h).mp ho, ?_⟩
  rcases hp with ⟨k1, k2, k3⟩ | ⟨k1, k2, k3⟩ | ⟨k1, k3⟩ | ⟨k1, k3⟩ | ⟨k1, k3⟩ | ⟨k1, k3⟩ | ⟨k1, k3⟩ | ⟨k1, k3⟩
  · exact Or.inl ⟨k1, k2, k3.trans (y.2.2 (wa.toInt - 10).toNat (by omega)).1⟩
  · exact Or.inr (Or.inl ⟨k1, k2, k3.trans (y.2.2 (wa.toInt - 20).toNat (by omega)).2⟩)
  · exact Or.inr (Or.inr (Or.inl ⟨k1, k3.trans y.1⟩))
  · exact Or.inr (Or.inr (Or.inr (Or.inl ⟨k1, k3.trans (h.2.2.2.2.2.2.1 a.toInt.toNat (by omega))⟩)))
  · exact Or.inr (Or.inr (Or.inr (Or.inr (Or.inl ⟨k1, k3.trans (h.2.2.2.2.2.2.2 a.toInt.toNat (by omega))⟩))))
  · exact Or.inr (Or.inr (Or.inr (Or.inr (Or.inr (Or.inl ⟨k1, k3.trans y.2.1⟩)))))
  · exact Or.inr (Or.inr (Or.inr (Or.inr (Or.inr (Or.inr (Or.inl ⟨k1, by rw [k3]; exact congrArg Int32.toInt (smO_cg 6 (fun o ho => (y.2.2 o ho).1))⟩))))))
  · exact Or.inr (Or.inr (Or.inr (Or.inr (Or.inr (Or.inr (Or.inr ⟨k1, k3⟩))))))
theorem pers_y {g : Nat → Int} {a wa r : Int32} {cy : Nat → Int32} (h : CYs g cy) (hd : CYd g cy) (ho : 0 ≤ a.toInt ∧ a.toInt < (cy 3).toInt) (hp : (10 ≤ wa.toInt ∧ wa.toInt ≤ 15 ∧ r.toInt = (cy (120 + 6 * a.toInt.toNat + (wa.toInt - 10).toNat)).toInt) ∨ (20 ≤ wa.toInt ∧ wa.toInt ≤ 25 ∧ r.toInt = (cy (156 + 6 * a.toInt.toNat + (wa.toInt - 20).toNat)).toInt) ∨ (wa.toInt = 0 ∧ r.toInt = (cy (96 + 4 * a.toInt.toNat)).toInt) ∨ (wa.toInt = 1 ∧ r.toInt = (cy (97 + 4 * a.toInt.toNat)).toInt) ∨ (wa.toInt = 2 ∧ r.toInt = (cy (98 + 4 * a.toInt.toNat)).toInt) ∨ (wa.toInt = 4 ∧ r.toInt = (cy (99 + 4 * a.toInt.toNat)).toInt) ∨ (wa.toInt = 3 ∧ r = smO (fun o : Nat => (cy (120 + 6 * a.toInt.toNat + o)).toInt) 6) ∨ ((wa.toInt < 0 ∨ (4 < wa.toInt ∧ wa.toInt < 10) ∨ (15 < wa.toInt ∧ wa.toInt < 20) ∨ 25 < wa.toInt) ∧ r.toInt = -1000001)) : stPerson g a wa r := by
  have e3 := h.1 3 (by omega)
  have y := hd a.toInt.toNat (by omega)
  have z := h.2.2 a.toInt.toNat (by omega)
  refine Or.inr ⟨(on_y h).mp ho, ?_⟩
  rcases hp with ⟨k1, k2, k3⟩ | ⟨k1, k2, k3⟩ | ⟨k1, k3⟩ | ⟨k1, k3⟩ | ⟨k1, k3⟩ | ⟨k1, k3⟩ | ⟨k1, k3⟩ | ⟨k1, k3⟩
  · exact Or.inl ⟨k1, k2, k3.trans (y.2.2 (wa.toInt - 10).toNat (by omega)).1⟩
  · exact Or.inr (Or.inl ⟨k1, k2, k3.trans (y.2.2 (wa.toInt - 20).toNat (by omega)).2⟩)
  · exact Or.inr (Or.inr (Or.inl ⟨k1, k3.trans y.1⟩))
  · exact Or.inr (Or.inr (Or.inr (Or.inl ⟨k1, k3.trans z.1⟩)))
  · exact Or.inr (Or.inr (Or.inr (Or.inr (Or.inl ⟨k1, k3.trans z.2⟩))))
  · exact Or.inr (Or.inr (Or.inr (Or.inr (Or.inr (Or.inl ⟨k1, k3.trans y.2.1⟩)))))
  · exact Or.inr (Or.inr (Or.inr (Or.inr (Or.inr (Or.inr (Or.inl ⟨k1, by rw [k3]; exact congrArg Int32.toInt (smO_cg 6 (fun o ho => (y.2.2 o ho).1))⟩))))))
  · exact Or.inr (Or.inr (Or.inr (Or.inr (Or.inr (Or.inr (Or.inr ⟨k1, k3⟩))))))
theorem gotX {g : Nat → Int} {cw ch cp a : Int32} {fc fp ff fh fm fl fg fd fb : Nat → Int32} (h : CXs g cw ch cp fc fp ff fh fm) (hd : CXd g fl fg fd fb) (ha : 0 ≤ a.toInt ∧ a.toInt < 6) (h0 : 0 ≤ cp.toInt) : smO (fun p : Nat => (fd (6 * p + a.toInt.toNat)).toInt) cp.toInt.toNat = smO (fun p : Nat => g (120 + 6 * p + a.toInt.toNat)) (g 3).toNat ∧ wtO (fun p : Nat => (fb (6 * p + a.toInt.toNat)).toInt) cp.toInt.toNat = wtO (fun p : Nat => g (156 + 6 * p + a.toInt.toNat)) (g 3).toNat := by
  have e3 := h.2.2.1
  rw [← e3]
  exact ⟨smO_cg _ (fun p hp => ((hd p (by omega)).2.2 a.toInt.toNat (by omega)).1), wtO_cg _ (fun p hp => ((hd p (by omega)).2.2 a.toInt.toNat (by omega)).2)⟩
theorem gotY {g : Nat → Int} {a : Int32} {cy : Nat → Int32} (h : CYs g cy) (hd : CYd g cy) (ha : 0 ≤ a.toInt ∧ a.toInt < 6) : smO (fun p : Nat => (cy (120 + 6 * p + a.toInt.toNat)).toInt) (cy 3).toInt.toNat = smO (fun p : Nat => g (120 + 6 * p + a.toInt.toNat)) (g 3).toNat ∧ wtO (fun p : Nat => (cy (156 + 6 * p + a.toInt.toNat)).toInt) (cy 3).toInt.toNat = wtO (fun p : Nat => g (156 + 6 * p + a.toInt.toNat)) (g 3).toNat := by
  have e3 := h.1 3 (by omega)
  rw [← e3]
  exact ⟨smO_cg _ (fun p hp => ((hd p (by omega)).2.2 a.toInt.toNat (by omega)).1), wtO_cg _ (fun p hp => ((hd p (by omega)).2.2 a.toInt.toNat (by omega)).2)⟩
def IX (cI cC cS : ClassId) (ad : Nat → Nat) (fq fim : Nat → Option Nat) (ln sn : Nat → Int32) (tz : Int32) (bf : Nat → Int32) (lt th k0 k1 : Int32) (g g0 g1 : Nat → Int) (tn : Int32) (tb : Nat → Int32) (iz : Nat → Int32) (fz : Int32) (wx : va_W) : Prop := ∃ (vS : Nat → Int32) (fS : Nat → Nat → Int32) (uS : Nat → Nat), ((fq 0 = some (ad 2)) ∧ (fq 1 = some (ad 4)) ∧ (fq 2 = some (ad 6)) ∧ (fq 3 = some (ad 8)) ∧ (fq 4 = some (ad 10)) ∧ (fq 5 = some (ad 12)) ∧ (fq 6 = some (ad 14)) ∧ (fq 7 = some (ad 16)) ∧ (rng ln 8 (-1) (2)) ∧ (rng sn 8 (0) (40)) ∧ (itR iz (fS 0) 0) ∧ (itR iz (fS 1) 1) ∧ (itR iz (fS 2) 2) ∧ (itR iz (fS 3) 3) ∧ (itR iz (fS 4) 4) ∧ (itR iz (fS 5) 5) ∧ (itR iz (fS 6) 6) ∧ (itR iz (fS 7) 7) ∧ (0 ≤ tz.toInt ∧ tz.toInt ≤ 400) ∧ (0 ≤ (vS 4).toInt ∧ (vS 4).toInt ≤ 10) ∧ (0 ≤ (vS 5).toInt ∧ (vS 5).toInt ≤ 8) ∧ (0 ≤ (vS 6).toInt ∧ (vS 6).toInt ≤ 6) ∧ (0 ≤ (vS 12).toInt ∧ (vS 12).toInt ≤ 10) ∧ (0 ≤ (vS 13).toInt ∧ (vS 13).toInt ≤ 8) ∧ (0 ≤ (vS 14).toInt ∧ (vS 14).toInt ≤ 6) ∧ (0 ≤ (vS 15).toInt ∧ (vS 15).toInt ≤ 10) ∧ (0 ≤ (vS 16).toInt ∧ (vS 16).toInt ≤ 8) ∧ (0 ≤ (vS 17).toInt ∧ (vS 17).toInt ≤ 6) ∧ (rng (fS 9) 80 (-1) (8)) ∧ (rng (fS 12) 6 (0) (79)) ∧ (rng (fS 13) 6 (0) (79)) ∧ (rng (fS 18) 80 (-1) (8)) ∧ (rng (fS 21) 6 (0) (79)) ∧ (rng (fS 22) 6 (0) (79)) ∧ (rng (fS 27) 80 (-1) (8)) ∧ (rng (fS 30) 6 (0) (79)) ∧ (rng (fS 31) 6 (0) (79)) ∧ (rng (fS 36) 80 (-1) (8)) ∧ (rng (fS 39) 6 (0) (79)) ∧ (rng (fS 40) 6 (0) (79)) ∧ (rng (fS 45) 640 (-1) (79)) ∧ (rng (fS 46) 640 (-1) (79)) ∧ (rng (fS 47) 640 (0) (2)) ∧ (rng (fS 48) 640 (0) (6)) ∧ (rng (fS 49) 640 (-1) (79)) ∧ (rng (fS 50) 640 (-1) (79)) ∧ (rng (fS 51) 640 (0) (2)) ∧ (rng (fS 52) 640 (0) (6)) ∧ (rng (fS 55) 480 (0) (479)) ∧ (0 ≤ (vS 19).toInt ∧ (vS 19).toInt < 480) ∧ (0 ≤ (vS 21).toInt ∧ (vS 21).toInt < 480) ∧ (0 ≤ (vS 20).toInt ∧ (vS 20).toInt ≤ 5) ∧ (0 ≤ (vS 22).toInt ∧ (vS 22).toInt ≤ 16) ∧ (rng (fS 8) 400 (0) (255)) ∧ (∀ j : Nat, (j : Int) < tz.toInt → (fS 8) j = bf j) ∧ (thC th (vS 4)) ∧ (thK k0 (vS 12) th) ∧ (thK k1 (vS 15) th) ∧ ((vS 22) = tn) ∧ ((fS 60) = tb) ∧ (CXs g (vS 4) (vS 5) (vS 6) (fS 9) (fS 10) (fS 11) (fS 13) (fS 14)) ∧ (CXs g0 (vS 12) (vS 13) (vS 14) (fS 27) (fS 28) (fS 29) (fS 31) (fS 32)) ∧ (CXs g1 (vS 15) (vS 16) (vS 17) (fS 36) (fS 37) (fS 38) (fS 40) (fS 41)) ∧ (CXd g (fS 12) (fS 15) (fS 16) (fS 17)) ∧ (CXd g0 (fS 30) (fS 33) (fS 34) (fS 35)) ∧ (CXd g1 (fS 39) (fS 42) (fS 43) (fS 44)) ∧ ((g 0 = 0 ∧ g 3 = 0) ∨ VWs g (fS 45) (fS 46) (fS 47) (fS 48)) ∧ (fim 0 = some (ad 42)) ∧ (fim 1 = some (ad 52))) ∧ wx = [((ad 0), .inr (8, [.ref ((ad 1)), .ref ((ad 18)), .ref ((ad 20)), .ref ((ad 30)), .ref ((ad 40)), .ref ((ad 41)), .ref ((ad 62)), .ref ((ad 67)), .ref ((ad 72)), .ref ((ad 77)), .ref ((ad 81)), .int lt, .int fz])), ((ad 1), .inl (cS, 8, .inr (.inr (.inr (.inr fq))))), ((ad 2), .inr (4, [.int ((ln 0)), .int ((sn 0)), .ref ((ad 3))])), ((ad 3), .inl (cI, 40, .inl (fS 0))), ((ad 4), .inr (4, [.int ((ln 1)), .int ((sn 1)), .ref ((ad 5))])), ((ad 5), .inl (cI, 40, .inl (fS 1))), ((ad 6), .inr (4, [.int ((ln 2)), .int ((sn 2)), .ref ((ad 7))])), ((ad 7), .inl (cI, 40, .inl (fS 2))), ((ad 8), .inr (4, [.int ((ln 3)), .int ((sn 3)), .ref ((ad 9))])), ((ad 9), .inl (cI, 40, .inl (fS 3))), ((ad 10), .inr (4, [.int ((ln 4)), .int ((sn 4)), .ref ((ad 11))])), ((ad 11), .inl (cI, 40, .inl (fS 4))), ((ad 12), .inr (4, [.int ((ln 5)), .int ((sn 5)), .ref ((ad 13))])), ((ad 13), .inl (cI, 40, .inl (fS 5))), ((ad 14), .inr (4, [.int ((ln 6)), .int ((sn 6)), .ref ((ad 15))])), ((ad 15), .inl (cI, 40, .inl (fS 6))), ((ad 16), .inr (4, [.int ((ln 7)), .int ((sn 7)), .ref ((ad 17))])), ((ad 17), .inl (cI, 40, .inl (fS 7))), ((ad 18), .inr (5, [.ref ((ad 19)), .int tz, .int (vS 0), .int (vS 1), .int (vS 2), .int (vS 3)])), ((ad 19), .inl (cI, 400, .inl (fS 8))), ((ad 20), .inr (1, [.int (vS 4), .int (vS 5), .int (vS 6), .ref ((ad 21)), .ref ((ad 22)), .ref ((ad 23)), .ref ((ad 24)), .ref ((ad 25)), .ref ((ad 26)), .ref ((ad 27)), .ref ((ad 28)), .ref ((ad 29))])), ((ad 21), .inl (cI, 80, .inl (fS 9))), ((ad 22), .inl (cI, 6, .inl (fS 10))), ((ad 23), .inl (cI, 6, .inl (fS 11))), ((ad 24), .inl (cI, 6, .inl (fS 12))), ((ad 25), .inl (cI, 6, .inl (fS 13))), ((ad 26), .inl (cI, 6, .inl (fS 14))), ((ad 27), .inl (cI, 6, .inl (fS 15))), ((ad 28), .inl (cI, 36, .inl (fS 16))), ((ad 29), .inl (cI, 36, .inl (fS 17))), ((ad 30), .inr (1, [.int (vS 7), .int (vS 8), .int (vS 9), .ref ((ad 31)), .ref ((ad 32)), .ref ((ad 33)), .ref ((ad 34)), .ref ((ad 35)), .ref ((ad 36)), .ref ((ad 37)), .ref ((ad 38)), .ref ((ad 39))])), ((ad 31), .inl (cI, 80, .inl (fS 18))), ((ad 32), .inl (cI, 6, .inl (fS 19))), ((ad 33), .inl (cI, 6, .inl (fS 20))), ((ad 34), .inl (cI, 6, .inl (fS 21))), ((ad 35), .inl (cI, 6, .inl (fS 22))), ((ad 36), .inl (cI, 6, .inl (fS 23))), ((ad 37), .inl (cI, 6, .inl (fS 24))), ((ad 38), .inl (cI, 36, .inl (fS 25))), ((ad 39), .inl (cI, 36, .inl (fS 26))), ((ad 40), .inr (3, [.ref ((ad 18)), .ref ((ad 30)), .int (vS 10), .int (vS 11)])), ((ad 41), .inl (cC, 2, .inr (.inr (.inr (.inr fim))))), ((ad 42), .inr (1, [.int (vS 12), .int (vS 13), .int (vS 14), .ref ((ad 43)), .ref ((ad 44)), .ref ((ad 45)), .ref ((ad 46)), .ref ((ad 47)), .ref ((ad 48)), .ref ((ad 49)), .ref ((ad 50)), .ref ((ad 51))])), ((ad 43), .inl (cI, 80, .inl (fS 27))), ((ad 44), .inl (cI, 6, .inl (fS 28))), ((ad 45), .inl (cI, 6, .inl (fS 29))), ((ad 46), .inl (cI, 6, .inl (fS 30))), ((ad 47), .inl (cI, 6, .inl (fS 31))), ((ad 48), .inl (cI, 6, .inl (fS 32))), ((ad 49), .inl (cI, 6, .inl (fS 33))), ((ad 50), .inl (cI, 36, .inl (fS 34))), ((ad 51), .inl (cI, 36, .inl (fS 35))), ((ad 52), .inr (1, [.int (vS 15), .int (vS 16), .int (vS 17), .ref ((ad 53)), .ref ((ad 54)), .ref ((ad 55)), .ref ((ad 56)), .ref ((ad 57)), .ref ((ad 58)), .ref ((ad 59)), .ref ((ad 60)), .ref ((ad 61))])), ((ad 53), .inl (cI, 80, .inl (fS 36))), ((ad 54), .inl (cI, 6, .inl (fS 37))), ((ad 55), .inl (cI, 6, .inl (fS 38))), ((ad 56), .inl (cI, 6, .inl (fS 39))), ((ad 57), .inl (cI, 6, .inl (fS 40))), ((ad 58), .inl (cI, 6, .inl (fS 41))), ((ad 59), .inl (cI, 6, .inl (fS 42))), ((ad 60), .inl (cI, 36, .inl (fS 43))), ((ad 61), .inl (cI, 36, .inl (fS 44))), ((ad 62), .inr (6, [.ref ((ad 63)), .ref ((ad 64)), .ref ((ad 65)), .ref ((ad 66))])), ((ad 63), .inl (cI, 640, .inl (fS 45))), ((ad 64), .inl (cI, 640, .inl (fS 46))), ((ad 65), .inl (cI, 640, .inl (fS 47))), ((ad 66), .inl (cI, 640, .inl (fS 48))), ((ad 67), .inr (6, [.ref ((ad 68)), .ref ((ad 69)), .ref ((ad 70)), .ref ((ad 71))])), ((ad 68), .inl (cI, 640, .inl (fS 49))), ((ad 69), .inl (cI, 640, .inl (fS 50))), ((ad 70), .inl (cI, 640, .inl (fS 51))), ((ad 71), .inl (cI, 640, .inl (fS 52))), ((ad 72), .inr (7, [.ref ((ad 20)), .ref (uS 0), .ref (uS 1), .ref ((ad 73)), .ref ((ad 74)), .ref ((ad 75)), .ref ((ad 76)), .int (vS 18), .int (vS 19), .int (vS 20), .int (vS 21)])), ((ad 73), .inl (cI, 7, .inl (fS 53))), ((ad 74), .inl (cI, 480, .inl (fS 54))), ((ad 75), .inl (cI, 480, .inl (fS 55))), ((ad 76), .inl (cI, 480, .inl (fS 56))), ((ad 77), .inr (2, [.ref ((ad 20)), .ref ((ad 72)), .ref ((ad 78)), .ref ((ad 79)), .ref ((ad 80))])), ((ad 78), .inl (cI, 6, .inl (fS 57))), ((ad 79), .inl (cI, 21, .inl (fS 58))), ((ad 80), .inl (cI, 21, .inl (fS 59))), ((ad 81), .inr (0, [.ref ((ad 20)), .ref ((ad 82)), .int (vS 22)])), ((ad 82), .inl (cI, 16, .inl (fS 60)))]
set_option maxRecDepth 100000 in
theorem IX_0 {cI cC cS : ClassId} {ad : Nat → Nat} {fq fim : Nat → Option Nat} {ln sn : Nat → Int32} {tz : Int32} {bf : Nat → Int32} {lt th k0 k1 : Int32} {g g0 g1 : Nat → Int} {tn : Int32} {tb : Nat → Int32} {iz : Nat → Int32} {fz : Int32} {wx : va_W} (h : IX cI cC cS ad fq fim ln sn tz bf lt th k0 k1 g g0 g1 tn tb iz fz wx) : ∃ fs, wx[0]? = some (ad 0, .inr (8, fs)) := by
  obtain ⟨vS, fS, uS, hf, rfl⟩ := h
  obtain ⟨kf_hq0, kf_hq1, kf_hq2, kf_hq3, kf_hq4, kf_hq5, kf_hq6, kf_hq7, kf_hln, kf_hsn, kf_hit0, kf_hit1, kf_hit2, kf_hit3, kf_hit4, kf_hit5, kf_hit6, kf_hit7, kf_hz, kf_hcw, kf_hch, kf_hcp, kf_hicw, kf_hich, kf_hicp, kf_hjcw, kf_hjch, kf_hjcp, kf_hr_fc, kf_hr_fl, kf_hr_fh, kf_hr_dfc, kf_hr_dfl, kf_hr_dfh, kf_hr_ifc, kf_hr_ifl, kf_hr_ifh, kf_hr_jfc, kf_hr_jfl, kf_hr_jfh, kf_hr_vn, kf_hr_vs, kf_hr_vm, kf_hr_vf, kf_hr_un, kf_hr_us, kf_hr_um, kf_hr_uf, kf_hr_qu, kf_htl, kf_hst, kf_hbd, kf_htc, kf_hr_fby, kf_hby, kf_hth, kf_hk0, kf_hk1, kf_htn, kf_htb, kf_hcx, kf_hc0, kf_hc1, kf_hcd, kf_hcd0, kf_hcd1, kf_hvw, kf_hm0, kf_hm1⟩ := hf
  exact ⟨_, rfl⟩
