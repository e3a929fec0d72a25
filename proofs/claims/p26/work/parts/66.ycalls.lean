def IY (cI cZ : ClassId) (ay : Nat → Nat) (ln sn : Nat → Int32) (tz : Int32) (bf : Nat → Int32) (lt th k0 k1 : Int32) (g g0 g1 : Nat → Int) (tn : Int32) (tb : Nat → Int32) (iz : Nat → Int32) (fz : Int32) (wx : va_W) : Prop := ∃ (vS : Nat → Int32) (fS : Nat → Nat → Int32), ((∀ j : Nat, j < 8 → (fS 0) j = ln j) ∧ (∀ j : Nat, j < 8 → 0 ≤ (ln j).toInt → (fS 1) j = sn j) ∧ (rng (fS 1) 8 (0) (40)) ∧ (prd cyK 192 (fS 3)) ∧ (prd cyK 192 (fS 4)) ∧ (prd kpK 384 (fS 12)) ∧ (rng (fS 8) 640 (0) (400)) ∧ (rng (fS 9) 640 (-1) (79)) ∧ (rng (fS 10) 6 (0) (99)) ∧ (-1 ≤ (vS 8).toInt ∧ (vS 8).toInt < 80 ∧ 0 ≤ (vS 9).toInt ∧ (vS 9).toInt ≤ 2) ∧ (0 ≤ tz.toInt ∧ tz.toInt ≤ 400) ∧ (0 ≤ (vS 10).toInt ∧ (vS 10).toInt ≤ 16) ∧ ((vS 10) = tn) ∧ ((fS 13) = tb) ∧ (CYs g (fS 3)) ∧ (CYd g (fS 3)) ∧ (CYd g0 (fun j => (fS 12) (192 * 0 + j))) ∧ (CYd g1 (fun j => (fS 12) (192 * 1 + j))) ∧ (gF g) ∧ (gF g0) ∧ (gF g1) ∧ (itM ln iz (fS 2)) ∧ (CYs g0 (fun j => (fS 12) (192 * 0 + j))) ∧ (CYs g1 (fun j => (fS 12) (192 * 1 + j))) ∧ (∀ j : Nat, j < 8 → -1 ≤ (ln j).toInt) ∧ ((fS 11) 0 = k0 ∧ (fS 11) 1 = k1) ∧ (rng (fS 5) 400 (0) (255)) ∧ (∀ j : Nat, (j : Int) < tz.toInt → (fS 5) j = bf j)) ∧ wx = [((ay 0), .inr (9, [.int (vS 0), .int fz, .ref ((ay 1)), .ref ((ay 2)), .ref ((ay 3)), .ref ((ay 4)), .ref ((ay 5)), .int th, .ref ((ay 6)), .int tz, .int lt, .int (vS 1), .int (vS 2), .int (vS 3), .int (vS 4), .int (vS 5), .int (vS 6), .int (vS 7), .int (vS 8), .int (vS 9), .ref ((ay 7)), .ref ((ay 8)), .ref ((ay 9)), .ref ((ay 10)), .ref ((ay 11)), .ref ((ay 12)), .ref ((ay 13)), .ref ((ay 14)), .int (vS 10)])), ((ay 1), .inl (cI, 8, .inl (fS 0))), ((ay 2), .inl (cI, 8, .inl (fS 1))), ((ay 3), .inl (cI, 320, .inl (fS 2))), ((ay 4), .inl (cI, 192, .inl (fS 3))), ((ay 5), .inl (cI, 192, .inl (fS 4))), ((ay 6), .inl (cI, 400, .inl (fS 5))), ((ay 7), .inl (cI, 480, .inl (fS 6))), ((ay 8), .inl (cI, 480, .inl (fS 7))), ((ay 9), .inl (cI, 640, .inl (fS 8))), ((ay 10), .inl (cI, 640, .inl (fS 9))), ((ay 11), .inl (cI, 6, .inl (fS 10))), ((ay 12), .inl (cZ, 2, .inl (fS 11))), ((ay 13), .inl (cI, 384, .inl (fS 12))), ((ay 14), .inl (cI, 16, .inl (fS 13)))]
set_option maxRecDepth 100000 in
theorem IY_0 {cI cZ : ClassId} {ay : Nat → Nat} {ln sn : Nat → Int32} {tz : Int32} {bf : Nat → Int32} {lt th k0 k1 : Int32} {g g0 g1 : Nat → Int} {tn : Int32} {tb : Nat → Int32} {iz : Nat → Int32} {fz : Int32} {wx : va_W} (h : IY cI cZ ay ln sn tz bf lt th k0 k1 g g0 g1 tn tb iz fz wx) : ∃ fs, wx[0]? = some (ay 0, .inr (9, fs)) := by
  obtain ⟨vS, fS, hf, rfl⟩ := h
  obtain ⟨kf_hla, kf_hmc, kf_hma, kf_hcy, kf_hfr, kf_hkp, kf_hfe, kf_hgo, kf_hpw, kf_hsm, kf_htp, kf_htd, kf_htn, kf_htb, kf_hcs, kf_hcd, kf_hcd0, kf_hcd1, kf_hgf, kf_hgf0, kf_hgf1, kf_him, kf_hc0, kf_hc1, kf_hlr, kf_hik, kf_hr_tf, kf_hby⟩ := hf
  exact ⟨_, rfl⟩
set_option maxRecDepth 100000 in
theorem IY_g {cI cZ : ClassId} {ay : Nat → Nat} {ln sn : Nat → Int32} {tz : Int32} {bf : Nat → Int32} {lt th k0 k1 : Int32} {g g0 g1 : Nat → Int} {tn : Int32} {tb : Nat → Int32} {iz : Nat → Int32} {fz : Int32} {wx : va_W} (h : IY cI cZ ay ln sn tz bf lt th k0 k1 g g0 g1 tn tb iz fz wx) : gOK g := by
  obtain ⟨vS, fS, hf, rfl⟩ := h
  obtain ⟨kf_hla, kf_hmc, kf_hma, kf_hcy, kf_hfr, kf_hkp, kf_hfe, kf_hgo, kf_hpw, kf_hsm, kf_htp, kf_htd, kf_htn, kf_htb, kf_hcs, kf_hcd, kf_hcd0, kf_hcd1, kf_hgf, kf_hgf0, kf_hgf1, kf_him, kf_hc0, kf_hc1, kf_hlr, kf_hik, kf_hr_tf, kf_hby⟩ := hf
  exact gOK_of kf_hcy kf_hcs
set_option maxRecDepth 100000 in
theorem IY_p {cI cZ : ClassId} {ay : Nat → Nat} {ln sn : Nat → Int32} {tz : Int32} {bf : Nat → Int32} {lt th k0 k1 : Int32} {g g0 g1 : Nat → Int} {tn : Int32} {tb : Nat → Int32} {iz : Nat → Int32} {fz : Int32} {wx : va_W} (h : IY cI cZ ay ln sn tz bf lt th k0 k1 g g0 g1 tn tb iz fz wx) : gPr g := by
  obtain ⟨vS, fS, hf, rfl⟩ := h
  obtain ⟨kf_hla, kf_hmc, kf_hma, kf_hcy, kf_hfr, kf_hkp, kf_hfe, kf_hgo, kf_hpw, kf_hsm, kf_htp, kf_htd, kf_htn, kf_htb, kf_hcs, kf_hcd, kf_hcd0, kf_hcd1, kf_hgf, kf_hgf0, kf_hgf1, kf_him, kf_hc0, kf_hc1, kf_hlr, kf_hik, kf_hr_tf, kf_hby⟩ := hf
  exact gPr_y kf_hcs (fun j h1 h2 => (kf_hcy j (by omega)).2.2.2.2.2.1 h1 h2)
set_option maxHeartbeats 8000000 in
set_option maxRecDepth 100000 in
theorem fY_sheet (l : Launch) (D : va_G) (cI cZ cC cS : ClassId) (sq : Nat → Nat) (sz : Nat) (ay : Nat → Nat) (ln sn : Nat → Int32) (tz : Int32) (bf : Nat → Int32) (lt th k0 k1 : Int32) (g g0 g1 : Nat → Int) (tn : Int32) (tb : Nat → Int32) (iz : Nat → Int32) (fz : Int32) (a : Int32) (b : Int32) (nn : Int32) {wx : va_W} (h : IY cI cZ ay ln sn tz bf lt th k0 k1 g g0 g1 tn tb iz fz wx) : mI l yX9_sheet wsX9_sheet 50 2000 D (tyW cI cZ cC cS) sq wx sz [.ref (ay 0), .int a, .int b, .int nn] (fun r w => ∃ (ln2 sn2 iz2 : Nat → Int32) (fz2 : Int32), stSheet ln sn iz fz a b nn r ln2 sn2 iz2 fz2 ∧ IY cI cZ ay ln2 sn2 tz bf lt th k0 k1 g g0 g1 tn tb iz2 fz2 w) := by
  obtain ⟨vS, fS, hf, rfl⟩ := h
  obtain ⟨kf_hla, kf_hmc, kf_hma, kf_hcy, kf_hfr, kf_hkp, kf_hfe, kf_hgo, kf_hpw, kf_hsm, kf_htp, kf_htd, kf_htn, kf_htb, kf_hcs, kf_hcd, kf_hcd0, kf_hcd1, kf_hgf, kf_hgf0, kf_hgf1, kf_him, kf_hc0, kf_hc1, kf_hlr, kf_hik, kf_hr_tf, kf_hby⟩ := hf
  refine b_lfT (n := 15) (s_X9_sheet l D cI cZ cC cS sq sz (ay 0) (ay 1) (ay 2) (ay 3) a b nn (vS 0) fz (ay 4) (ay 5) th (ay 6) tz lt (vS 1) (vS 2) (vS 3) (vS 4) (vS 5) (vS 6) (vS 7) (vS 8) (vS 9) (ay 7) (ay 8) (ay 9) (ay 10) (ay 11) (ay 12) (ay 13) (ay 14) (vS 10) (fS 0) (fS 1) (fS 2) kf_hma) [0, 1, 2, 3] [4, 5, 6, 7, 8, 9, 10, 11, 12, 13, 14] rfl rfl (by decide +kernel) ?_
  intro r w hw
  rcases hw with ⟨k0_0, er, rfl⟩ | ⟨k1_0, er, rfl⟩ | ⟨z2_la_2, z2_ma_2, z2_it_2, k2_0, k2_1, k2_2, k2_3, k2_4, er, rfl⟩
  · exact ⟨[0, 1, 2, 3], [11, 12, 13, 14, 0, 1, 2, 3, 4, 5, 6, 7, 8, 9, 10], [1, 2, 3, 4, 0, 0, 0, 0, 0, 0, 0, 0, 0, 0, 0], rfl, by decide +kernel, ln, sn, iz, fz, Or.inl (⟨by omega, er, rfl, rfl, rfl, rfl⟩), ⟨(va_up vS 0 (0 : Int32)), fS, ⟨kf_hla, kf_hmc, kf_hma, kf_hcy, kf_hfr, kf_hkp, kf_hfe, kf_hgo, kf_hpw, kf_hsm, kf_htp, kf_htd, kf_htn, kf_htb, kf_hcs, kf_hcd, kf_hcd0, kf_hcd1, kf_hgf, kf_hgf0, kf_hgf1, kf_him, kf_hc0, kf_hc1, kf_hlr, kf_hik, kf_hr_tf, kf_hby⟩, rfl⟩⟩
  · exact ⟨[0, 1, 2, 3], [11, 12, 13, 14, 0, 1, 2, 3, 4, 5, 6, 7, 8, 9, 10], [1, 2, 3, 4, 0, 0, 0, 0, 0, 0, 0, 0, 0, 0, 0], rfl, by decide +kernel, ln, sn, iz, 4, Or.inr (Or.inl (⟨by omega, er, rfl, rfl, rfl, rfl⟩)), ⟨(va_up vS 0 (0 : Int32)), fS, ⟨kf_hla, kf_hmc, kf_hma, kf_hcy, kf_hfr, kf_hkp, kf_hfe, kf_hgo, kf_hpw, kf_hsm, kf_htp, kf_htd, kf_htn, kf_htb, kf_hcs, kf_hcd, kf_hcd0, kf_hcd1, kf_hgf, kf_hgf0, kf_hgf1, kf_him, kf_hc0, kf_hc1, kf_hlr, kf_hik, kf_hr_tf, kf_hby⟩, rfl⟩⟩
  · exact ⟨[0, 1, 2, 3], [11, 12, 13, 14, 0, 1, 2, 3, 4, 5, 6, 7, 8, 9, 10], [1, 2, 3, 4, 0, 0, 0, 0, 0, 0, 0, 0, 0, 0, 0], rfl, by decide +kernel, (upd ln a.toNatClampNeg b), (upd sn a.toNatClampNeg nn), _, 0, Or.inr (Or.inr (⟨by omega, er, rfl, rfl, rfl, rfl⟩)), ⟨(va_up vS 0 (0 : Int32)), (va_up (va_up (va_up fS 0 z2_la_2) 1 z2_ma_2) 2 z2_it_2), ⟨(by rw [k2_2]; exact upd_cg kf_hla), (by rw [k2_3]; exact upd_cm kf_hmc), k2_0, kf_hcy, kf_hfr, kf_hkp, kf_hfe, kf_hgo, kf_hpw, kf_hsm, kf_htp, kf_htd, kf_htn, kf_htb, kf_hcs, kf_hcd, kf_hcd0, kf_hcd1, kf_hgf, kf_hgf0, kf_hgf1, (itM_zb kf_him k2_4 upd_o), kf_hc0, kf_hc1, (upd_lr kf_hlr (by omega)), kf_hik, kf_hr_tf, kf_hby⟩, rfl⟩⟩
set_option maxHeartbeats 8000000 in
set_option maxRecDepth 100000 in
theorem fY_set (l : Launch) (D : va_G) (cI cZ cC cS : ClassId) (sq : Nat → Nat) (sz : Nat) (ay : Nat → Nat) (ln sn : Nat → Int32) (tz : Int32) (bf : Nat → Int32) (lt th k0 k1 : Int32) (g g0 g1 : Nat → Int) (tn : Int32) (tb : Nat → Int32) (iz : Nat → Int32) (fz : Int32) (a : Int32) (i : Int32) (v : Int32) {wx : va_W} (h : IY cI cZ ay ln sn tz bf lt th k0 k1 g g0 g1 tn tb iz fz wx) : mI l yX9_set wsX9_set 50 2000 D (tyW cI cZ cC cS) sq wx sz [.ref (ay 0), .int a, .int i, .int v] (fun r w => ∃ (iz2 : Nat → Int32) (fz2 : Int32), stSet ln sn iz fz a i v r iz2 fz2 ∧ IY cI cZ ay ln sn tz bf lt th k0 k1 g g0 g1 tn tb iz2 fz2 w) := by
  obtain ⟨vS, fS, hf, rfl⟩ := h
  obtain ⟨kf_hla, kf_hmc, kf_hma, kf_hcy, kf_hfr, kf_hkp, kf_hfe, kf_hgo, kf_hpw, kf_hsm, kf_htp, kf_htd, kf_htn, kf_htb, kf_hcs, kf_hcd, kf_hcd0, kf_hcd1, kf_hgf, kf_hgf0, kf_hgf1, kf_him, kf_hc0, kf_hc1, kf_hlr, kf_hik, kf_hr_tf, kf_hby⟩ := hf
  refine b_lfT (n := 15) (s_X9_set l D cI cZ cC cS sq sz (ay 0) (ay 1) (ay 2) (ay 3) a i v (vS 0) fz (ay 4) (ay 5) th (ay 6) tz lt (vS 1) (vS 2) (vS 3) (vS 4) (vS 5) (vS 6) (vS 7) (vS 8) (vS 9) (ay 7) (ay 8) (ay 9) (ay 10) (ay 11) (ay 12) (ay 13) (ay 14) (vS 10) (fS 0) (fS 1) (fS 2) kf_hma) [0, 1, 2, 3] [4, 5, 6, 7, 8, 9, 10, 11, 12, 13, 14] rfl rfl (by decide +kernel) ?_
  intro r w hw
  rcases hw with ⟨k0_0, er, rfl⟩ | ⟨k1_0, er, rfl⟩ | ⟨k2_0, er, rfl⟩ | ⟨z3_it_2, k3_0, k3_1, k3_2, rfl⟩
  · exact ⟨[0, 1, 2, 3], [11, 12, 13, 14, 0, 1, 2, 3, 4, 5, 6, 7, 8, 9, 10], [1, 2, 3, 4, 0, 0, 0, 0, 0, 0, 0, 0, 0, 0, 0], rfl, by decide +kernel, iz, fz, (Or.inl ⟨k0_0, er, rfl, rfl⟩), ⟨(va_up vS 0 (0 : Int32)), fS, ⟨kf_hla, kf_hmc, kf_hma, kf_hcy, kf_hfr, kf_hkp, kf_hfe, kf_hgo, kf_hpw, kf_hsm, kf_htp, kf_htd, kf_htn, kf_htb, kf_hcs, kf_hcd, kf_hcd0, kf_hcd1, kf_hgf, kf_hgf0, kf_hgf1, kf_him, kf_hc0, kf_hc1, kf_hlr, kf_hik, kf_hr_tf, kf_hby⟩, rfl⟩⟩
  · have hl_ := kf_hla _ (cl8 (a := a) (by omega))
    have hj_ := k1_0
    rw [hl_] at hj_
    exact ⟨[0, 1, 2, 3], [11, 12, 13, 14, 0, 1, 2, 3, 4, 5, 6, 7, 8, 9, 10], [1, 2, 3, 4, 0, 0, 0, 0, 0, 0, 0, 0, 0, 0, 0], rfl, by decide +kernel, iz, 1, (Or.inr ⟨by omega, Or.inl ⟨by omega, er, rfl, rfl⟩⟩), ⟨(va_up vS 0 (0 : Int32)), fS, ⟨kf_hla, kf_hmc, kf_hma, kf_hcy, kf_hfr, kf_hkp, kf_hfe, kf_hgo, kf_hpw, kf_hsm, kf_htp, kf_htd, kf_htn, kf_htb, kf_hcs, kf_hcd, kf_hcd0, kf_hcd1, kf_hgf, kf_hgf0, kf_hgf1, kf_him, kf_hc0, kf_hc1, kf_hlr, kf_hik, kf_hr_tf, kf_hby⟩, rfl⟩⟩
  · have hl_ := kf_hla _ (cl8 (a := a) (by omega))
    have hj_ := k2_0
    rw [hl_] at hj_
    have hm_ := kf_hmc _ (cl8 (a := a) (by omega)) (by omega)
    rw [hm_] at hj_
    exact ⟨[0, 1, 2, 3], [11, 12, 13, 14, 0, 1, 2, 3, 4, 5, 6, 7, 8, 9, 10], [1, 2, 3, 4, 0, 0, 0, 0, 0, 0, 0, 0, 0, 0, 0], rfl, by decide +kernel, iz, 2, (Or.inr ⟨by omega, Or.inr ⟨by omega, Or.inl ⟨by omega, er, rfl, rfl⟩⟩⟩), ⟨(va_up vS 0 (0 : Int32)), fS, ⟨kf_hla, kf_hmc, kf_hma, kf_hcy, kf_hfr, kf_hkp, kf_hfe, kf_hgo, kf_hpw, kf_hsm, kf_htp, kf_htd, kf_htn, kf_htb, kf_hcs, kf_hcd, kf_hcd0, kf_hcd1, kf_hgf, kf_hgf0, kf_hgf1, kf_him, kf_hc0, kf_hc1, kf_hlr, kf_hik, kf_hr_tf, kf_hby⟩, rfl⟩⟩
  · have hl_ := kf_hla _ (cl8 (a := a) (by omega))
    have hj_ := k3_0
    rw [hl_] at hj_
    have hm_ := kf_hmc _ (cl8 (a := a) (by omega)) (by omega)
    rw [hm_] at hj_
    exact ⟨[0, 1, 2, 3], [11, 12, 13, 14, 0, 1, 2, 3, 4, 5, 6, 7, 8, 9, 10], [1, 2, 3, 4, 0, 0, 0, 0, 0, 0, 0, 0, 0, 0, 0], rfl, by decide +kernel, _, 0, (Or.inr ⟨by omega, Or.inr ⟨by omega, Or.inr ⟨by omega, by rw [← hl_]; exact k3_1, rfl, rfl⟩⟩⟩), ⟨(va_up vS 0 (0 : Int32)), (va_up fS 2 z3_it_2), ⟨kf_hla, kf_hmc, kf_hma, kf_hcy, kf_hfr, kf_hkp, kf_hfe, kf_hgo, kf_hpw, kf_hsm, kf_htp, kf_htd, kf_htn, kf_htb, kf_hcs, kf_hcd, kf_hcd0, kf_hcd1, kf_hgf, kf_hgf0, kf_hgf1, (itM_ub kf_him k3_2), kf_hc0, kf_hc1, kf_hlr, kf_hik, kf_hr_tf, kf_hby⟩, rfl⟩⟩
set_option maxHeartbeats 8000000 in
set_option maxRecDepth 100000 in
theorem fY_copy (l : Launch) (D : va_G) (cI cZ cC cS : ClassId) (sq : Nat → Nat) (sz : Nat) (ay : Nat → Nat) (ln sn : Nat → Int32) (tz : Int32) (bf : Nat → Int32) (lt th k0 k1 : Int32) (g g0 g1 : Nat → Int) (tn : Int32) (tb : Nat → Int32) (iz : Nat → Int32) (fz : Int32) (a : Int32) (i : Int32) (b : Int32) (j : Int32) (nn : Int32) {wx : va_W} (h : IY cI cZ ay ln sn tz bf lt th k0 k1 g g0 g1 tn tb iz fz wx) : mI l yX9_copy wsX9_copy 50 2000 D (tyW cI cZ cC cS) sq wx sz [.ref (ay 0), .int a, .int i, .int b, .int j, .int nn] (fun r w => ∃ (iz2 : Nat → Int32) (fz2 : Int32), stCopy ln sn iz fz a i b j nn r iz2 fz2 ∧ IY cI cZ ay ln sn tz bf lt th k0 k1 g g0 g1 tn tb iz2 fz2 w) := by
  obtain ⟨vS, fS, hf, rfl⟩ := h
  obtain ⟨kf_hla, kf_hmc, kf_hma, kf_hcy, kf_hfr, kf_hkp, kf_hfe, kf_hgo, kf_hpw, kf_hsm, kf_htp, kf_htd, kf_htn, kf_htb, kf_hcs, kf_hcd, kf_hcd0, kf_hcd1, kf_hgf, kf_hgf0, kf_hgf1, kf_him, kf_hc0, kf_hc1, kf_hlr, kf_hik, kf_hr_tf, kf_hby⟩ := hf
  refine b_lfT (n := 15) (s_X9_copy l D cI cZ cC cS sq sz (ay 0) (ay 1) (ay 2) (ay 3) a i b j nn (vS 0) fz (ay 4) (ay 5) th (ay 6) tz lt (vS 1) (vS 2) (vS 3) (vS 4) (vS 5) (vS 6) (vS 7) (vS 8) (vS 9) (ay 7) (ay 8) (ay 9) (ay 10) (ay 11) (ay 12) (ay 13) (ay 14) (vS 10) (fS 0) (fS 1) (fS 2) kf_hma) [0, 1, 2, 3] [4, 5, 6, 7, 8, 9, 10, 11, 12, 13, 14] rfl rfl (by decide +kernel) ?_
  intro r w hw
  rcases hw with ⟨k0_0, er, rfl⟩ | ⟨k1_0, er, rfl⟩ | ⟨k2_0, er, rfl⟩ | ⟨k3_0, er, rfl⟩ | ⟨z4_it_2, k4_0, k4_1, er, rfl⟩
  · exact ⟨[0, 1, 2, 3], [11, 12, 13, 14, 0, 1, 2, 3, 4, 5, 6, 7, 8, 9, 10], [1, 2, 3, 4, 0, 0, 0, 0, 0, 0, 0, 0, 0, 0, 0], rfl, by decide +kernel, iz, fz, (Or.inl ⟨fun z => k0_0 (by omega), er, rfl, rfl⟩), ⟨(va_up vS 0 (0 : Int32)), fS, ⟨kf_hla, kf_hmc, kf_hma, kf_hcy, kf_hfr, kf_hkp, kf_hfe, kf_hgo, kf_hpw, kf_hsm, kf_htp, kf_htd, kf_htn, kf_htb, kf_hcs, kf_hcd, kf_hcd0, kf_hcd1, kf_hgf, kf_hgf0, kf_hgf1, kf_him, kf_hc0, kf_hc1, kf_hlr, kf_hik, kf_hr_tf, kf_hby⟩, rfl⟩⟩
  · have hl_ := kf_hla _ (cl8 (a := a) (by omega))
    have hj_ := k1_0
    have hk_ := kf_hla _ (cl8 (a := b) (by omega))
    rw [hl_, hk_] at hj_
    exact ⟨[0, 1, 2, 3], [11, 12, 13, 14, 0, 1, 2, 3, 4, 5, 6, 7, 8, 9, 10], [1, 2, 3, 4, 0, 0, 0, 0, 0, 0, 0, 0, 0, 0, 0], rfl, by decide +kernel, iz, 1, (Or.inr ⟨by omega, Or.inl ⟨by omega, er, rfl, rfl⟩⟩), ⟨(va_up vS 0 (0 : Int32)), fS, ⟨kf_hla, kf_hmc, kf_hma, kf_hcy, kf_hfr, kf_hkp, kf_hfe, kf_hgo, kf_hpw, kf_hsm, kf_htp, kf_htd, kf_htn, kf_htb, kf_hcs, kf_hcd, kf_hcd0, kf_hcd1, kf_hgf, kf_hgf0, kf_hgf1, kf_him, kf_hc0, kf_hc1, kf_hlr, kf_hik, kf_hr_tf, kf_hby⟩, rfl⟩⟩
  · have hl_ := kf_hla _ (cl8 (a := a) (by omega))
    have hj_ := k2_0
    have hk_ := kf_hla _ (cl8 (a := b) (by omega))
    rw [hl_, hk_] at hj_
    exact ⟨[0, 1, 2, 3], [11, 12, 13, 14, 0, 1, 2, 3, 4, 5, 6, 7, 8, 9, 10], [1, 2, 3, 4, 0, 0, 0, 0, 0, 0, 0, 0, 0, 0, 0], rfl, by decide +kernel, iz, 5, (Or.inr ⟨by omega, Or.inr ⟨by omega, Or.inl ⟨by omega, er, rfl, rfl⟩⟩⟩), ⟨(va_up vS 0 (0 : Int32)), fS, ⟨kf_hla, kf_hmc, kf_hma, kf_hcy, kf_hfr, kf_hkp, kf_hfe, kf_hgo, kf_hpw, kf_hsm, kf_htp, kf_htd, kf_htn, kf_htb, kf_hcs, kf_hcd, kf_hcd0, kf_hcd1, kf_hgf, kf_hgf0, kf_hgf1, kf_him, kf_hc0, kf_hc1, kf_hlr, kf_hik, kf_hr_tf, kf_hby⟩, rfl⟩⟩
  · have hl_ := kf_hla _ (cl8 (a := a) (by omega))
    have hj_ := k3_0
    have hk_ := kf_hla _ (cl8 (a := b) (by omega))
    rw [hl_, hk_] at hj_
    have hm_ := kf_hmc _ (cl8 (a := a) (by omega)) (by omega)
    have hn_ := kf_hmc _ (cl8 (a := b) (by omega)) (by omega)
    have hmr_ := kf_hma _ (cl8 (a := a) (by omega))
    have hnr_ := kf_hma _ (cl8 (a := b) (by omega))
    rw [hm_, hn_] at hj_
    rw [hm_] at hmr_
    rw [hn_] at hnr_
    exact ⟨[0, 1, 2, 3], [11, 12, 13, 14, 0, 1, 2, 3, 4, 5, 6, 7, 8, 9, 10], [1, 2, 3, 4, 0, 0, 0, 0, 0, 0, 0, 0, 0, 0, 0], rfl, by decide +kernel, iz, 2, (Or.inr ⟨by omega, Or.inr ⟨by omega, Or.inr ⟨by omega, Or.inl ⟨by unfold okC; omega, er, rfl, rfl⟩⟩⟩⟩), ⟨(va_up vS 0 (0 : Int32)), fS, ⟨kf_hla, kf_hmc, kf_hma, kf_hcy, kf_hfr, kf_hkp, kf_hfe, kf_hgo, kf_hpw, kf_hsm, kf_htp, kf_htd, kf_htn, kf_htb, kf_hcs, kf_hcd, kf_hcd0, kf_hcd1, kf_hgf, kf_hgf0, kf_hgf1, kf_him, kf_hc0, kf_hc1, kf_hlr, kf_hik, kf_hr_tf, kf_hby⟩, rfl⟩⟩
  · have hl_ := kf_hla _ (cl8 (a := a) (by omega))
    have hj_ := k4_0
    have hk_ := kf_hla _ (cl8 (a := b) (by omega))
    rw [hl_, hk_] at hj_
    have hm_ := kf_hmc _ (cl8 (a := a) (by omega)) (by omega)
    have hn_ := kf_hmc _ (cl8 (a := b) (by omega)) (by omega)
    have hmr_ := kf_hma _ (cl8 (a := a) (by omega))
    have hnr_ := kf_hma _ (cl8 (a := b) (by omega))
    rw [hm_, hn_] at hj_
    rw [hm_] at hmr_
    rw [hn_] at hnr_
    exact ⟨[0, 1, 2, 3], [11, 12, 13, 14, 0, 1, 2, 3, 4, 5, 6, 7, 8, 9, 10], [1, 2, 3, 4, 0, 0, 0, 0, 0, 0, 0, 0, 0, 0, 0], rfl, by decide +kernel, _, 0, (Or.inr ⟨by omega, Or.inr ⟨by omega, Or.inr ⟨by omega, Or.inr ⟨by unfold okC; omega, er, rfl, rfl⟩⟩⟩⟩), ⟨(va_up vS 0 (0 : Int32)), (va_up fS 2 z4_it_2), ⟨kf_hla, kf_hmc, kf_hma, kf_hcy, kf_hfr, kf_hkp, kf_hfe, kf_hgo, kf_hpw, kf_hsm, kf_htp, kf_htd, kf_htn, kf_htb, kf_hcs, kf_hcd, kf_hcd0, kf_hcd1, kf_hgf, kf_hgf0, kf_hgf1, (itM_cp kf_him k4_1 (cl8 (by omega)) (by omega) (by show i.toInt.toNat + nn.toInt.toNat ≤ 40; omega) (by show j.toInt.toNat + nn.toInt.toNat ≤ 40; omega)), kf_hc0, kf_hc1, kf_hlr, kf_hik, kf_hr_tf, kf_hby⟩, rfl⟩⟩
set_option maxHeartbeats 8000000 in
set_option maxRecDepth 100000 in
theorem fY_drop (l : Launch) (D : va_G) (cI cZ cC cS : ClassId) (sq : Nat → Nat) (sz : Nat) (ay : Nat → Nat) (ln sn : Nat → Int32) (tz : Int32) (bf : Nat → Int32) (lt th k0 k1 : Int32) (g g0 g1 : Nat → Int) (tn : Int32) (tb : Nat → Int32) (iz : Nat → Int32) (fz : Int32) (a : Int32) {wx : va_W} (h : IY cI cZ ay ln sn tz bf lt th k0 k1 g g0 g1 tn tb iz fz wx) : mI l yX9_drop wsX9_drop 50 2000 D (tyW cI cZ cC cS) sq wx sz [.ref (ay 0), .int a] (fun r w => ∃ (ln2 sn2 iz2 : Nat → Int32) (fz2 : Int32), stDrop ln sn iz fz a r ln2 sn2 iz2 fz2 ∧ IY cI cZ ay ln2 sn2 tz bf lt th k0 k1 g g0 g1 tn tb iz2 fz2 w) := by
  obtain ⟨vS, fS, hf, rfl⟩ := h
  obtain ⟨kf_hla, kf_hmc, kf_hma, kf_hcy, kf_hfr, kf_hkp, kf_hfe, kf_hgo, kf_hpw, kf_hsm, kf_htp, kf_htd, kf_htn, kf_htb, kf_hcs, kf_hcd, kf_hcd0, kf_hcd1, kf_hgf, kf_hgf0, kf_hgf1, kf_him, kf_hc0, kf_hc1, kf_hlr, kf_hik, kf_hr_tf, kf_hby⟩ := hf
  refine b_lfT (n := 15) (s_X9_drop l D cI cZ cC cS sq sz (ay 0) (ay 1) (ay 2) a (vS 0) fz (ay 3) (ay 4) (ay 5) th (ay 6) tz lt (vS 1) (vS 2) (vS 3) (vS 4) (vS 5) (vS 6) (vS 7) (vS 8) (vS 9) (ay 7) (ay 8) (ay 9) (ay 10) (ay 11) (ay 12) (ay 13) (ay 14) (vS 10) (fS 0) (fS 1) kf_hma) [0, 1, 2] [3, 4, 5, 6, 7, 8, 9, 10, 11, 12, 13, 14] rfl rfl (by decide +kernel) ?_
  intro r w hw
  rcases hw with ⟨k0_0, er, rfl⟩ | ⟨k1_0, er, rfl⟩ | ⟨z2_la_2, k2_0, k2_1, k2_2, rfl⟩
  · exact ⟨[0, 1, 2], [12, 13, 14, 0, 1, 2, 3, 4, 5, 6, 7, 8, 9, 10, 11], [1, 2, 3, 0, 0, 0, 0, 0, 0, 0, 0, 0, 0, 0, 0], rfl, by decide +kernel, ln, sn, iz, fz, Or.inl (⟨by omega, er, rfl, rfl, rfl, rfl⟩), ⟨(va_up vS 0 (0 : Int32)), fS, ⟨kf_hla, kf_hmc, kf_hma, kf_hcy, kf_hfr, kf_hkp, kf_hfe, kf_hgo, kf_hpw, kf_hsm, kf_htp, kf_htd, kf_htn, kf_htb, kf_hcs, kf_hcd, kf_hcd0, kf_hcd1, kf_hgf, kf_hgf0, kf_hgf1, kf_him, kf_hc0, kf_hc1, kf_hlr, kf_hik, kf_hr_tf, kf_hby⟩, rfl⟩⟩
  · exact ⟨[0, 1, 2], [12, 13, 14, 0, 1, 2, 3, 4, 5, 6, 7, 8, 9, 10, 11], [1, 2, 3, 0, 0, 0, 0, 0, 0, 0, 0, 0, 0, 0, 0], rfl, by decide +kernel, ln, sn, iz, 1, (by rw [kf_hla _ (cl8 (by omega))] at k1_0; exact Or.inr (Or.inl (⟨by omega, er, rfl, rfl, rfl, rfl⟩))), ⟨(va_up vS 0 (0 : Int32)), fS, ⟨kf_hla, kf_hmc, kf_hma, kf_hcy, kf_hfr, kf_hkp, kf_hfe, kf_hgo, kf_hpw, kf_hsm, kf_htp, kf_htd, kf_htn, kf_htb, kf_hcs, kf_hcd, kf_hcd0, kf_hcd1, kf_hgf, kf_hgf0, kf_hgf1, kf_him, kf_hc0, kf_hc1, kf_hlr, kf_hik, kf_hr_tf, kf_hby⟩, rfl⟩⟩
  · exact ⟨[0, 1, 2], [12, 13, 14, 0, 1, 2, 3, 4, 5, 6, 7, 8, 9, 10, 11], [1, 2, 3, 0, 0, 0, 0, 0, 0, 0, 0, 0, 0, 0, 0], rfl, by decide +kernel, (upd ln a.toNatClampNeg (-1)), (upd sn a.toNatClampNeg 0), _, 0, (by rw [kf_hla _ (cl8 (by omega))] at k2_0; rw [kf_hmc _ (cl8 (by omega)) (by omega)] at k2_1; exact Or.inr (Or.inr (⟨by omega, k2_1, rfl, rfl, rfl, rfl⟩))), ⟨(va_up vS 0 (0 : Int32)), (va_up fS 0 z2_la_2), ⟨(by rw [k2_2]; exact upd_cg kf_hla), (upd_cd kf_hmc), kf_hma, kf_hcy, kf_hfr, kf_hkp, kf_hfe, kf_hgo, kf_hpw, kf_hsm, kf_htp, kf_htd, kf_htn, kf_htb, kf_hcs, kf_hcd, kf_hcd0, kf_hcd1, kf_hgf, kf_hgf0, kf_hgf1, (itM_dr kf_him upd_o (by rw [show upd ln a.toNatClampNeg (-1) a.toNatClampNeg = -1 from if_pos rfl]; decide)), kf_hc0, kf_hc1, (upd_lr kf_hlr (by decide)), kf_hik, kf_hr_tf, kf_hby⟩, rfl⟩⟩
set_option maxHeartbeats 8000000 in
set_option maxRecDepth 100000 in
theorem fY_feed (l : Launch) (D : va_G) (cI cZ cC cS : ClassId) (sq : Nat → Nat) (sz : Nat) (ay : Nat → Nat) (ln sn : Nat → Int32) (tz : Int32) (bf : Nat → Int32) (lt th k0 k1 : Int32) (g g0 g1 : Nat → Int) (tn : Int32) (tb : Nat → Int32) (iz : Nat → Int32) (fz : Int32) (wv : Int64) (nn : Int32) {wx : va_W} (h : IY cI cZ ay ln sn tz bf lt th k0 k1 g g0 g1 tn tb iz fz wx) : mI l yX9_feed wsX9_feed 50 2000 D (tyW cI cZ cC cS) sq wx sz [.ref (ay 0), .long wv, .int nn] (fun r w => ∃ (tz2 : Int32) (bf2 : Nat → Int32), stFeed tz bf wv nn r tz2 bf2 ∧ IY cI cZ ay ln sn tz2 bf2 lt th k0 k1 g g0 g1 tn tb iz fz w) := by
  obtain ⟨vS, fS, hf, rfl⟩ := h
  obtain ⟨kf_hla, kf_hmc, kf_hma, kf_hcy, kf_hfr, kf_hkp, kf_hfe, kf_hgo, kf_hpw, kf_hsm, kf_htp, kf_htd, kf_htn, kf_htb, kf_hcs, kf_hcd, kf_hcd0, kf_hcd1, kf_hgf, kf_hgf0, kf_hgf1, kf_him, kf_hc0, kf_hc1, kf_hlr, kf_hik, kf_hr_tf, kf_hby⟩ := hf
  refine b_lfT (n := 15) (s_X9_feed l D cI cZ cC cS sq sz (ay 0) (ay 6) wv nn (vS 0) fz (ay 1) (ay 2) (ay 3) (ay 4) (ay 5) th tz lt (vS 1) (vS 2) (vS 3) (vS 4) (vS 5) (vS 6) (vS 7) (vS 8) (vS 9) (ay 7) (ay 8) (ay 9) (ay 10) (ay 11) (ay 12) (ay 13) (ay 14) (vS 10) (fS 5) kf_hr_tf kf_htp) [0, 6] [1, 2, 3, 4, 5, 7, 8, 9, 10, 11, 12, 13, 14] rfl rfl (by decide +kernel) ?_
  intro r w hw
  rcases hw with ⟨k0_0, er, rfl⟩ | ⟨k1_0, er, rfl⟩ | ⟨z2_m_taped2, z2_tf2, k2_0, k2_1, k2_2, er, rfl⟩
  · exact ⟨[0, 6], [13, 0, 1, 2, 3, 4, 14, 5, 6, 7, 8, 9, 10, 11, 12], [1, 0, 0, 0, 0, 0, 2, 0, 0, 0, 0, 0, 0, 0, 0], rfl, by decide +kernel, tz, bf, Or.inl (⟨by omega, er, rfl, rfl⟩), ⟨(va_up vS 0 (0 : Int32)), fS, ⟨kf_hla, kf_hmc, kf_hma, kf_hcy, kf_hfr, kf_hkp, kf_hfe, kf_hgo, kf_hpw, kf_hsm, kf_htp, kf_htd, kf_htn, kf_htb, kf_hcs, kf_hcd, kf_hcd0, kf_hcd1, kf_hgf, kf_hgf0, kf_hgf1, kf_him, kf_hc0, kf_hc1, kf_hlr, kf_hik, kf_hr_tf, kf_hby⟩, rfl⟩⟩
  · exact ⟨[0, 6], [13, 0, 1, 2, 3, 4, 14, 5, 6, 7, 8, 9, 10, 11, 12], [1, 0, 0, 0, 0, 0, 2, 0, 0, 0, 0, 0, 0, 0, 0], rfl, by decide +kernel, tz, bf, Or.inr (Or.inl (⟨by omega, er, rfl, rfl⟩)), ⟨(va_up vS 0 (0 : Int32)), fS, ⟨kf_hla, kf_hmc, kf_hma, kf_hcy, kf_hfr, kf_hkp, kf_hfe, kf_hgo, kf_hpw, kf_hsm, kf_htp, kf_htd, kf_htn, kf_htb, kf_hcs, kf_hcd, kf_hcd0, kf_hcd1, kf_hgf, kf_hgf0, kf_hgf1, kf_him, kf_hc0, kf_hc1, kf_hlr, kf_hik, kf_hr_tf, kf_hby⟩, rfl⟩⟩
  · exact ⟨[0, 6], [13, 0, 1, 2, 3, 4, 14, 5, 6, 7, 8, 9, 10, 11, 12], [1, 0, 0, 0, 0, 0, 2, 0, 0, 0, 0, 0, 0, 0, 0], rfl, by decide +kernel, z2_m_taped2, (fdF wv bf tz.toInt (tz.toInt + nn.toInt)), Or.inr (Or.inr (⟨by omega, er, rfl⟩)), ⟨(va_up vS 0 (0 : Int32)), (va_up fS 5 z2_tf2), ⟨kf_hla, kf_hmc, kf_hma, kf_hcy, kf_hfr, kf_hkp, kf_hfe, kf_hgo, kf_hpw, kf_hsm, (show 0 ≤ z2_m_taped2.toInt ∧ z2_m_taped2.toInt ≤ 400 from by first | with_reducible assumption | omega | assumption | decide | (rw [show Int32.toInt 0 = 0 from rfl]; omega)), kf_htd, kf_htn, kf_htb, kf_hcs, kf_hcd, kf_hcd0, kf_hcd1, kf_hgf, kf_hgf0, kf_hgf1, kf_him, kf_hc0, kf_hc1, kf_hlr, kf_hik, k2_0, (fdB_cg k2_2 kf_hby)⟩, rfl⟩⟩
set_option maxHeartbeats 8000000 in
set_option maxRecDepth 100000 in
theorem fY_city (l : Launch) (D : va_G) (cI cZ cC cS : ClassId) (sq : Nat → Nat) (sz : Nat) (ay : Nat → Nat) (ln sn : Nat → Int32) (tz : Int32) (bf : Nat → Int32) (lt th k0 k1 : Int32) (g g0 g1 : Nat → Int) (tn : Int32) (tb : Nat → Int32) (iz : Nat → Int32) (fz : Int32)  {wx : va_W} (h : IY cI cZ ay ln sn tz bf lt th k0 k1 g g0 g1 tn tb iz fz wx) : mI l yX9_city wsX9_city 6 240 D (tyW cI cZ cC cS) sq wx sz [.ref (ay 0)] (fun r w => ∃ (lt2 th2 : Int32) (g2 : Nat → Int), stCity tz bf lt th g r lt2 th2 g2 ∧ IY cI cZ ay ln sn 0 bf lt2 th2 k0 k1 g2 g0 g1 tn tb iz fz w) := by
  obtain ⟨vS, fS, hf, rfl⟩ := h
  obtain ⟨kf_hla, kf_hmc, kf_hma, kf_hcy, kf_hfr, kf_hkp, kf_hfe, kf_hgo, kf_hpw, kf_hsm, kf_htp, kf_htd, kf_htn, kf_htb, kf_hcs, kf_hcd, kf_hcd0, kf_hcd1, kf_hgf, kf_hgf0, kf_hgf1, kf_him, kf_hc0, kf_hc1, kf_hlr, kf_hik, kf_hr_tf, kf_hby⟩ := hf
  refine b_lfT (n := 15) (s_X9_city l D cI cZ cC cS sq sz (ay 0) (ay 6) (ay 5) (ay 4) (vS 0) fz (ay 1) (ay 2) (ay 3) th tz lt (vS 1) (vS 2) (vS 3) (vS 4) (vS 5) (vS 6) (vS 7) (vS 8) (vS 9) (ay 7) (ay 8) (ay 9) (ay 10) (ay 11) (ay 12) (ay 13) (ay 14) (vS 10) (fS 5) (fS 4) (fS 3) kf_hfr kf_hcy kf_hr_tf kf_htp) [0, 6, 5, 4] [1, 2, 3, 7, 8, 9, 10, 11, 12, 13, 14] rfl rfl (by decide +kernel) ?_
  intro r w hw
  obtain ⟨z0_m_isThere2, z0_m_latest2, z0_m_cursor2, z0_m_token2, z0_m_start2, z0_m_till2, z0_m_fault2, z0_m_faultAt2, z0_fr2, z0_cy2, k0_0, k0_1, k0_2, rfl⟩ := hw
  obtain ⟨g2, hs_, hc_, hd2_, hf2_⟩ := stCity_y kf_hby k0_2 kf_hcs kf_hcd kf_hgf (((k0_1) 3 (by decide)).2.2.2.1 rfl).2
  exact ⟨[0, 6, 5, 4], [11, 0, 1, 2, 14, 13, 12, 3, 4, 5, 6, 7, 8, 9, 10], [1, 0, 0, 0, 4, 3, 2, 0, 0, 0, 0, 0, 0, 0, 0], rfl, by decide +kernel, z0_m_latest2, z0_m_isThere2, g2, hs_, ⟨(va_up (va_up (va_up (va_up (va_up (va_up (va_up (va_up vS 0 (0 : Int32)) 1 tz) 2 z0_m_cursor2) 3 z0_m_token2) 4 z0_m_start2) 5 z0_m_till2) 6 z0_m_fault2) 7 z0_m_faultAt2), (va_up (va_up fS 3 z0_cy2) 4 z0_fr2), ⟨kf_hla, kf_hmc, kf_hma, k0_1, k0_0, kf_hkp, kf_hfe, kf_hgo, kf_hpw, kf_hsm, (show 0 ≤ (0 : Int32).toInt ∧ (0 : Int32).toInt ≤ 400 from by first | with_reducible assumption | omega | assumption | decide | (rw [show Int32.toInt 0 = 0 from rfl]; omega)), kf_htd, kf_htn, kf_htb, hc_, hd2_, kf_hcd0, kf_hcd1, hf2_, kf_hgf0, kf_hgf1, kf_him, kf_hc0, kf_hc1, kf_hlr, kf_hik, kf_hr_tf, no_j⟩, rfl⟩⟩
set_option maxHeartbeats 8000000 in
set_option maxRecDepth 100000 in
theorem fY_fault (l : Launch) (D : va_G) (cI cZ cC cS : ClassId) (sq : Nat → Nat) (sz : Nat) (ay : Nat → Nat) (ln sn : Nat → Int32) (tz : Int32) (bf : Nat → Int32) (lt th k0 k1 : Int32) (g g0 g1 : Nat → Int) (tn : Int32) (tb : Nat → Int32) (iz : Nat → Int32) (fz : Int32)  {wx : va_W} (h : IY cI cZ ay ln sn tz bf lt th k0 k1 g g0 g1 tn tb iz fz wx) : mI l yX9_fault wsX9_fault 50 2000 D (tyW cI cZ cC cS) sq wx sz [.ref (ay 0)] (fun r w => r = lt ∧ IY cI cZ ay ln sn tz bf lt th k0 k1 g g0 g1 tn tb iz fz w) := by
  obtain ⟨vS, fS, hf, rfl⟩ := h
  obtain ⟨kf_hla, kf_hmc, kf_hma, kf_hcy, kf_hfr, kf_hkp, kf_hfe, kf_hgo, kf_hpw, kf_hsm, kf_htp, kf_htd, kf_htn, kf_htb, kf_hcs, kf_hcd, kf_hcd0, kf_hcd1, kf_hgf, kf_hgf0, kf_hgf1, kf_him, kf_hc0, kf_hc1, kf_hlr, kf_hik, kf_hr_tf, kf_hby⟩ := hf
  refine b_lfT (n := 15) (s_X9_fault l D cI cZ cC cS sq sz (ay 0) (vS 0) fz (ay 1) (ay 2) (ay 3) (ay 4) (ay 5) th (ay 6) tz lt (vS 1) (vS 2) (vS 3) (vS 4) (vS 5) (vS 6) (vS 7) (vS 8) (vS 9) (ay 7) (ay 8) (ay 9) (ay 10) (ay 11) (ay 12) (ay 13) (ay 14) (vS 10)) [0] [1, 2, 3, 4, 5, 6, 7, 8, 9, 10, 11, 12, 13, 14] rfl rfl (by decide +kernel) ?_
  intro r w hw
  obtain ⟨er, rfl⟩ := hw
  exact ⟨[0], [14, 0, 1, 2, 3, 4, 5, 6, 7, 8, 9, 10, 11, 12, 13], [1, 0, 0, 0, 0, 0, 0, 0, 0, 0, 0, 0, 0, 0, 0], rfl, by decide +kernel, er, ⟨(va_up vS 0 (0 : Int32)), fS, ⟨kf_hla, kf_hmc, kf_hma, kf_hcy, kf_hfr, kf_hkp, kf_hfe, kf_hgo, kf_hpw, kf_hsm, kf_htp, kf_htd, kf_htn, kf_htb, kf_hcs, kf_hcd, kf_hcd0, kf_hcd1, kf_hgf, kf_hgf0, kf_hgf1, kf_him, kf_hc0, kf_hc1, kf_hlr, kf_hik, kf_hr_tf, kf_hby⟩, rfl⟩⟩
set_option maxHeartbeats 8000000 in
set_option maxRecDepth 100000 in
theorem fY_look (l : Launch) (D : va_G) (cI cZ cC cS : ClassId) (sq : Nat → Nat) (sz : Nat) (ay : Nat → Nat) (ln sn : Nat → Int32) (tz : Int32) (bf : Nat → Int32) (lt th k0 k1 : Int32) (g g0 g1 : Nat → Int) (tn : Int32) (tb : Nat → Int32) (iz : Nat → Int32) (fz : Int32) (k : Int32) (wy : Int32) (wa : Int32) {wx : va_W} (h : IY cI cZ ay ln sn tz bf lt th k0 k1 g g0 g1 tn tb iz fz wx) : mI l yX9_look wsX9_look 50 2000 D (tyW cI cZ cC cS) sq wx sz [.ref (ay 0), .int k, .int wy, .int wa] (fun r w => stLook g k wy wa r ∧ IY cI cZ ay ln sn tz bf lt th k0 k1 g g0 g1 tn tb iz fz w) := by
  obtain ⟨vS, fS, hf, rfl⟩ := h
  obtain ⟨kf_hla, kf_hmc, kf_hma, kf_hcy, kf_hfr, kf_hkp, kf_hfe, kf_hgo, kf_hpw, kf_hsm, kf_htp, kf_htd, kf_htn, kf_htb, kf_hcs, kf_hcd, kf_hcd0, kf_hcd1, kf_hgf, kf_hgf0, kf_hgf1, kf_him, kf_hc0, kf_hc1, kf_hlr, kf_hik, kf_hr_tf, kf_hby⟩ := hf
  refine b_lfT (n := 15) (s_X9_look l D cI cZ cC cS sq sz (ay 0) (ay 4) k wy wa (vS 0) fz (ay 1) (ay 2) (ay 3) (ay 5) th (ay 6) tz lt (vS 1) (vS 2) (vS 3) (vS 4) (vS 5) (vS 6) (vS 7) (vS 8) (vS 9) (ay 7) (ay 8) (ay 9) (ay 10) (ay 11) (ay 12) (ay 13) (ay 14) (vS 10) (fS 3) g kf_hcy kf_hsm (GY_s kf_hcs) (gB_o (gOK_of kf_hcy kf_hcs)) kf_hcs) [0, 4] [1, 2, 3, 5, 6, 7, 8, 9, 10, 11, 12, 13, 14] rfl rfl (by decide +kernel) ?_
  intro r w hw
  obtain ⟨z0_m_seen2, z0_m_mirrors2, k0_0, k0_1, rfl⟩ := hw
  exact ⟨[0, 4], [13, 0, 1, 2, 14, 3, 4, 5, 6, 7, 8, 9, 10, 11, 12], [1, 0, 0, 0, 2, 0, 0, 0, 0, 0, 0, 0, 0, 0, 0], rfl, by decide +kernel, k0_1, ⟨(va_up (va_up (va_up vS 0 (0 : Int32)) 8 z0_m_seen2) 9 z0_m_mirrors2), fS, ⟨kf_hla, kf_hmc, kf_hma, kf_hcy, kf_hfr, kf_hkp, kf_hfe, kf_hgo, kf_hpw, k0_0, kf_htp, kf_htd, kf_htn, kf_htb, kf_hcs, kf_hcd, kf_hcd0, kf_hcd1, kf_hgf, kf_hgf0, kf_hgf1, kf_him, kf_hc0, kf_hc1, kf_hlr, kf_hik, kf_hr_tf, kf_hby⟩, rfl⟩⟩
set_option maxHeartbeats 8000000 in
set_option maxRecDepth 100000 in
theorem fY_price (l : Launch) (D : va_G) (cI cZ cC cS : ClassId) (sq : Nat → Nat) (sz : Nat) (ay : Nat → Nat) (ln sn : Nat → Int32) (tz : Int32) (bf : Nat → Int32) (lt th k0 k1 : Int32) (g g0 g1 : Nat → Int) (tn : Int32) (tb : Nat → Int32) (iz : Nat → Int32) (fz : Int32) (a : Int32) (v : Int32) {wx : va_W} (h : IY cI cZ ay ln sn tz bf lt th k0 k1 g g0 g1 tn tb iz fz wx) : mI l yX9_price wsX9_price 50 2000 D (tyW cI cZ cC cS) sq wx sz [.ref (ay 0), .int a, .int v] (fun r w => ∃ g2 : Nat → Int, stPrice th g a v r g2 ∧ IY cI cZ ay ln sn tz bf lt th k0 k1 g2 g0 g1 tn tb iz fz w) := by
  obtain ⟨vS, fS, hf, rfl⟩ := h
  obtain ⟨kf_hla, kf_hmc, kf_hma, kf_hcy, kf_hfr, kf_hkp, kf_hfe, kf_hgo, kf_hpw, kf_hsm, kf_htp, kf_htd, kf_htn, kf_htb, kf_hcs, kf_hcd, kf_hcd0, kf_hcd1, kf_hgf, kf_hgf0, kf_hgf1, kf_him, kf_hc0, kf_hc1, kf_hlr, kf_hik, kf_hr_tf, kf_hby⟩ := hf
  refine b_lfT (n := 15) (s_X9_price l D cI cZ cC cS sq sz (ay 0) (ay 4) a v (vS 0) fz (ay 1) (ay 2) (ay 3) (ay 5) th (ay 6) tz lt (vS 1) (vS 2) (vS 3) (vS 4) (vS 5) (vS 6) (vS 7) (vS 8) (vS 9) (ay 7) (ay 8) (ay 9) (ay 10) (ay 11) (ay 12) (ay 13) (ay 14) (vS 10) (fS 3) kf_hcy) [0, 4] [1, 2, 3, 5, 6, 7, 8, 9, 10, 11, 12, 13, 14] rfl rfl (by decide +kernel) ?_
  intro r w hw
  rcases hw with ⟨k0_0, er, rfl⟩ | ⟨k1_0, er, rfl⟩ | ⟨z2_cy2, k2_0, k2_1, k2_2, rfl⟩
  · exact ⟨[0, 4], [13, 0, 1, 2, 14, 3, 4, 5, 6, 7, 8, 9, 10, 11, 12], [1, 0, 0, 0, 2, 0, 0, 0, 0, 0, 0, 0, 0, 0, 0], rfl, by decide +kernel, g, (Or.inl ⟨k0_0, er, rfl⟩), ⟨(va_up vS 0 (0 : Int32)), fS, ⟨kf_hla, kf_hmc, kf_hma, kf_hcy, kf_hfr, kf_hkp, kf_hfe, kf_hgo, kf_hpw, kf_hsm, kf_htp, kf_htd, kf_htn, kf_htb, kf_hcs, kf_hcd, kf_hcd0, kf_hcd1, kf_hgf, kf_hgf0, kf_hgf1, kf_him, kf_hc0, kf_hc1, kf_hlr, kf_hik, kf_hr_tf, kf_hby⟩, rfl⟩⟩
  · exact ⟨[0, 4], [13, 0, 1, 2, 14, 3, 4, 5, 6, 7, 8, 9, 10, 11, 12], [1, 0, 0, 0, 2, 0, 0, 0, 0, 0, 0, 0, 0, 0, 0], rfl, by decide +kernel, g, (Or.inr (Or.inl ⟨k1_0, er, rfl⟩)), ⟨(va_up vS 0 (0 : Int32)), fS, ⟨kf_hla, kf_hmc, kf_hma, kf_hcy, kf_hfr, kf_hkp, kf_hfe, kf_hgo, kf_hpw, kf_hsm, kf_htp, kf_htd, kf_htn, kf_htb, kf_hcs, kf_hcd, kf_hcd0, kf_hcd1, kf_hgf, kf_hgf0, kf_hgf1, kf_him, kf_hc0, kf_hc1, kf_hlr, kf_hik, kf_hr_tf, kf_hby⟩, rfl⟩⟩
  · have hp_ := stPrice_y kf_hcs (gOK_of kf_hcy kf_hcs) k2_1 k2_2
    obtain ⟨ip_, i1_, i2_, i3_⟩ := k2_2
    exact ⟨[0, 4], [13, 0, 1, 2, 14, 3, 4, 5, 6, 7, 8, 9, 10, 11, 12], [1, 0, 0, 0, 2, 0, 0, 0, 0, 0, 0, 0, 0, 0, 0], rfl, by decide +kernel, _, hp_.1, ⟨(va_up vS 0 (0 : Int32)), (va_up fS 3 z2_cy2), ⟨kf_hla, kf_hmc, kf_hma, k2_0, kf_hfr, kf_hkp, kf_hfe, kf_hgo, kf_hpw, kf_hsm, kf_htp, kf_htd, kf_htn, kf_htb, hp_.2, (CYd_pr kf_hcd i3_ i1_ (by omega)), kf_hcd0, kf_hcd1, (gF_pr kf_hgf (by omega)), kf_hgf0, kf_hgf1, kf_him, kf_hc0, kf_hc1, kf_hlr, kf_hik, kf_hr_tf, kf_hby⟩, rfl⟩⟩
set_option maxHeartbeats 8000000 in
set_option maxRecDepth 100000 in
theorem fY_step (l : Launch) (D : va_G) (cI cZ cC cS : ClassId) (sq : Nat → Nat) (sz : Nat) (ay : Nat → Nat) (ln sn : Nat → Int32) (tz : Int32) (bf : Nat → Int32) (lt th k0 k1 : Int32) (g g0 g1 : Nat → Int) (tn : Int32) (tb : Nat → Int32) (iz : Nat → Int32) (fz : Int32) (a : Int32) (co : Int32) {wx : va_W} (h : IY cI cZ ay ln sn tz bf lt th k0 k1 g g0 g1 tn tb iz fz wx) : mI l yX9_step wsX9_step 50 2000 D (tyW cI cZ cC cS) sq wx sz [.ref (ay 0), .int a, .int co] (fun r w => ∃ g2 : Nat → Int, stStep g a co r g2 ∧ IY cI cZ ay ln sn tz bf lt th k0 k1 g2 g0 g1 tn tb iz fz w) := by
  obtain ⟨vS, fS, hf, rfl⟩ := h
  obtain ⟨kf_hla, kf_hmc, kf_hma, kf_hcy, kf_hfr, kf_hkp, kf_hfe, kf_hgo, kf_hpw, kf_hsm, kf_htp, kf_htd, kf_htn, kf_htb, kf_hcs, kf_hcd, kf_hcd0, kf_hcd1, kf_hgf, kf_hgf0, kf_hgf1, kf_him, kf_hc0, kf_hc1, kf_hlr, kf_hik, kf_hr_tf, kf_hby⟩ := hf
  refine b_lfT (n := 15) (s_X9_step l D cI cZ cC cS sq sz (ay 0) (ay 4) a co (vS 0) fz (ay 1) (ay 2) (ay 3) (ay 5) th (ay 6) tz lt (vS 1) (vS 2) (vS 3) (vS 4) (vS 5) (vS 6) (vS 7) (vS 8) (vS 9) (ay 7) (ay 8) (ay 9) (ay 10) (ay 11) (ay 12) (ay 13) (ay 14) (vS 10) (fS 3) g kf_hcy kf_hsm (GY_s kf_hcs) (gB_o (gOK_of kf_hcy kf_hcs)) kf_hcs (gOK_of kf_hcy kf_hcs).2.2.1.2 kf_hgf (gOK_of kf_hcy kf_hcs) kf_hcd) [0, 4] [1, 2, 3, 5, 6, 7, 8, 9, 10, 11, 12, 13, 14] rfl rfl (by decide +kernel) ?_
  intro r w hw
  rcases hw with ⟨z0_m_seen2, z0_m_mirrors2, k0_0, k0_1, er, rfl⟩ | ⟨z1_m_seen2, z1_m_mirrors2, z1_cy2, k1_0, k1_1, k1_2, k1_3, k1_4, k1_5, rfl⟩
  · exact ⟨[0, 4], [13, 0, 1, 2, 14, 3, 4, 5, 6, 7, 8, 9, 10, 11, 12], [1, 0, 0, 0, 2, 0, 0, 0, 0, 0, 0, 0, 0, 0, 0], rfl, by decide +kernel, g, (Or.inl ⟨fun z => k0_1 (by have y := z.1; have y2 := z.2; unfold onG at y; unfold mgG at y2; exact ⟨y.1, y.2, y2⟩), er, rfl⟩), ⟨(va_up (va_up (va_up vS 0 (0 : Int32)) 8 z0_m_seen2) 9 z0_m_mirrors2), fS, ⟨kf_hla, kf_hmc, kf_hma, kf_hcy, kf_hfr, kf_hkp, kf_hfe, kf_hgo, kf_hpw, k0_0, kf_htp, kf_htd, kf_htn, kf_htb, kf_hcs, kf_hcd, kf_hcd0, kf_hcd1, kf_hgf, kf_hgf0, kf_hgf1, kf_him, kf_hc0, kf_hc1, kf_hlr, kf_hik, kf_hr_tf, kf_hby⟩, rfl⟩⟩
  · have hj_ := k1_3
    have go_ := (gOK_of kf_hcy kf_hcs)
    have hs_ : ∀ j : Nat, stI j → stG g a.toInt co.toInt j = g j := fun j hj => stG_s go_ (by have y := go_.2.2.1; omega) (by omega) hj
    exact ⟨[0, 4], [13, 0, 1, 2, 14, 3, 4, 5, 6, 7, 8, 9, 10, 11, 12], [1, 0, 0, 0, 2, 0, 0, 0, 0, 0, 0, 0, 0, 0, 0], rfl, by decide +kernel, _, (Or.inr ⟨⟨⟨hj_.1, hj_.2.1⟩, hj_.2.2⟩, k1_4, rfl⟩), ⟨(va_up (va_up (va_up vS 0 (0 : Int32)) 8 z1_m_seen2) 9 z1_m_mirrors2), (va_up fS 3 z1_cy2), ⟨kf_hla, kf_hmc, kf_hma, k1_0, kf_hfr, kf_hkp, kf_hfe, kf_hgo, kf_hpw, k1_1, kf_htp, kf_htd, kf_htn, kf_htb, (CYs_st kf_hcs k1_2 hs_ go_.2.2.1.2), k1_5, kf_hcd0, kf_hcd1, (gF_cg kf_hgf hs_), kf_hgf0, kf_hgf1, kf_him, kf_hc0, kf_hc1, kf_hlr, kf_hik, kf_hr_tf, kf_hby⟩, rfl⟩⟩
set_option maxHeartbeats 8000000 in
set_option maxRecDepth 100000 in
theorem fY_walk (l : Launch) (D : va_G) (cI cZ cC cS : ClassId) (sq : Nat → Nat) (sz : Nat) (ay : Nat → Nat) (ln sn : Nat → Int32) (tz : Int32) (bf : Nat → Int32) (lt th k0 k1 : Int32) (g g0 g1 : Nat → Int) (tn : Int32) (tb : Nat → Int32) (iz : Nat → Int32) (fz : Int32) (a : Int32) (b : Int32) (i : Int32) (nn : Int32) {wx : va_W} (h : IY cI cZ ay ln sn tz bf lt th k0 k1 g g0 g1 tn tb iz fz wx) : mI l yX9_walk wsX9_walk 50 2000 D (tyW cI cZ cC cS) sq wx sz [.ref (ay 0), .int a, .int b, .int i, .int nn] (fun r w => ∃ (g2 : Nat → Int) (fz2 : Int32), stWalk ln sn iz fz g a b i nn r g2 fz2 ∧ IY cI cZ ay ln sn tz bf lt th k0 k1 g2 g0 g1 tn tb iz fz2 w) := by
  obtain ⟨vS, fS, hf, rfl⟩ := h
  obtain ⟨kf_hla, kf_hmc, kf_hma, kf_hcy, kf_hfr, kf_hkp, kf_hfe, kf_hgo, kf_hpw, kf_hsm, kf_htp, kf_htd, kf_htn, kf_htb, kf_hcs, kf_hcd, kf_hcd0, kf_hcd1, kf_hgf, kf_hgf0, kf_hgf1, kf_him, kf_hc0, kf_hc1, kf_hlr, kf_hik, kf_hr_tf, kf_hby⟩ := hf
  refine b_lfT (n := 15) (s_X9_walk l D cI cZ cC cS sq sz (ay 0) (ay 1) (ay 2) (ay 3) (ay 4) a b i nn (vS 0) fz (ay 5) th (ay 6) tz lt (vS 1) (vS 2) (vS 3) (vS 4) (vS 5) (vS 6) (vS 7) (vS 8) (vS 9) (ay 7) (ay 8) (ay 9) (ay 10) (ay 11) (ay 12) (ay 13) (ay 14) (vS 10) (fS 0) (fS 1) (fS 2) (fS 3) g kf_hcy kf_hma kf_hsm (GY_s kf_hcs) (gB_o (gOK_of kf_hcy kf_hcs)) kf_hcs (gOK_of kf_hcy kf_hcs).2.2.1.2 kf_hgf (gOK_of kf_hcy kf_hcs) kf_hcd) [0, 1, 2, 3, 4] [5, 6, 7, 8, 9, 10, 11, 12, 13, 14] rfl rfl (by decide +kernel) ?_
  intro r w hw
  rcases hw with ⟨k0_0, er, rfl⟩ | ⟨k1_0, er, rfl⟩ | ⟨k2_0, er, rfl⟩ | ⟨k3_0, k3_1, er, rfl⟩ | ⟨z4_m_seen2, z4_m_mirrors2, z4_cy2, k4_0, k4_1, k4_2, k4_3, k4_4, k4_5, k4_6, rfl⟩
  · have hj_ := k0_0
    have go_ := (gOK_of kf_hcy kf_hcs)
    have g3_ := go_.2.2.1
    exact ⟨[0, 1, 2, 3, 4], [10, 11, 12, 13, 14, 0, 1, 2, 3, 4, 5, 6, 7, 8, 9], [1, 2, 3, 4, 5, 0, 0, 0, 0, 0, 0, 0, 0, 0, 0], rfl, by decide +kernel, g, fz, (Or.inl ⟨fun z => hj_ (by have y := z.1; have y2 := z.2; unfold onG at y; omega), er, rfl, rfl⟩), ⟨(va_up vS 0 (0 : Int32)), fS, ⟨kf_hla, kf_hmc, kf_hma, kf_hcy, kf_hfr, kf_hkp, kf_hfe, kf_hgo, kf_hpw, kf_hsm, kf_htp, kf_htd, kf_htn, kf_htb, kf_hcs, kf_hcd, kf_hcd0, kf_hcd1, kf_hgf, kf_hgf0, kf_hgf1, kf_him, kf_hc0, kf_hc1, kf_hlr, kf_hik, kf_hr_tf, kf_hby⟩, rfl⟩⟩
  · have hj_ := k1_0
    have go_ := (gOK_of kf_hcy kf_hcs)
    have g3_ := go_.2.2.1
    have hl_ := kf_hla _ (cl8 (a := b) (by omega))
    have hlr_ := kf_hlr _ (cl8 (a := b) (by omega))
    rw [hl_] at hj_
    exact ⟨[0, 1, 2, 3, 4], [10, 11, 12, 13, 14, 0, 1, 2, 3, 4, 5, 6, 7, 8, 9], [1, 2, 3, 4, 5, 0, 0, 0, 0, 0, 0, 0, 0, 0, 0], rfl, by decide +kernel, g, 1, (Or.inr ⟨⟨⟨by omega, by omega⟩, by omega, by omega, by omega⟩, Or.inl ⟨by omega, er, rfl, rfl⟩⟩), ⟨(va_up vS 0 (0 : Int32)), fS, ⟨kf_hla, kf_hmc, kf_hma, kf_hcy, kf_hfr, kf_hkp, kf_hfe, kf_hgo, kf_hpw, kf_hsm, kf_htp, kf_htd, kf_htn, kf_htb, kf_hcs, kf_hcd, kf_hcd0, kf_hcd1, kf_hgf, kf_hgf0, kf_hgf1, kf_him, kf_hc0, kf_hc1, kf_hlr, kf_hik, kf_hr_tf, kf_hby⟩, rfl⟩⟩
  · have hj_ := k2_0
    have go_ := (gOK_of kf_hcy kf_hcs)
    have g3_ := go_.2.2.1
    have hl_ := kf_hla _ (cl8 (a := b) (by omega))
    have hlr_ := kf_hlr _ (cl8 (a := b) (by omega))
    rw [hl_] at hj_
    have hm_ := kf_hmc _ (cl8 (a := b) (by omega)) (by omega)
    have hmr_ := kf_hma _ (cl8 (a := b) (by omega))
    rw [hm_] at hj_ hmr_
    exact ⟨[0, 1, 2, 3, 4], [10, 11, 12, 13, 14, 0, 1, 2, 3, 4, 5, 6, 7, 8, 9], [1, 2, 3, 4, 5, 0, 0, 0, 0, 0, 0, 0, 0, 0, 0], rfl, by decide +kernel, g, 2, (Or.inr ⟨⟨⟨by omega, by omega⟩, by omega, by omega, by omega⟩, Or.inr ⟨by omega, Or.inl ⟨fun z => by unfold roW at z; omega, er, rfl, rfl⟩⟩⟩), ⟨(va_up vS 0 (0 : Int32)), fS, ⟨kf_hla, kf_hmc, kf_hma, kf_hcy, kf_hfr, kf_hkp, kf_hfe, kf_hgo, kf_hpw, kf_hsm, kf_htp, kf_htd, kf_htn, kf_htb, kf_hcs, kf_hcd, kf_hcd0, kf_hcd1, kf_hgf, kf_hgf0, kf_hgf1, kf_him, kf_hc0, kf_hc1, kf_hlr, kf_hik, kf_hr_tf, kf_hby⟩, rfl⟩⟩
  · have hj_ := k3_0
    have go_ := (gOK_of kf_hcy kf_hcs)
    have g3_ := go_.2.2.1
    have hl_ := kf_hla _ (cl8 (a := b) (by omega))
    have hlr_ := kf_hlr _ (cl8 (a := b) (by omega))
    rw [hl_] at hj_
    have hm_ := kf_hmc _ (cl8 (a := b) (by omega)) (by omega)
    have hmr_ := kf_hma _ (cl8 (a := b) (by omega))
    rw [hm_] at hj_ hmr_
    have hn_ : i.toInt + (nn.toInt.toNat : Nat) ≤ 40 := by omega
    have he_ := itm_walk (b := b) (i := i) kf_him (by omega) (by omega) (by omega) hn_
    have hw0_ := mgm_walk (g := g) (a := a) (nn := nn) (by omega) (by omega) he_
    exact ⟨[0, 1, 2, 3, 4], [10, 11, 12, 13, 14, 0, 1, 2, 3, 4, 5, 6, 7, 8, 9], [1, 2, 3, 4, 5, 0, 0, 0, 0, 0, 0, 0, 0, 0, 0], rfl, by decide +kernel, g, fz, (Or.inr ⟨⟨⟨by omega, by omega⟩, by omega, by omega, by omega⟩, Or.inr ⟨by omega, Or.inr ⟨by unfold roW; omega, Or.inl ⟨fun z => k3_1 (hw0_.mpr z), er, rfl, rfl⟩⟩⟩⟩), ⟨(va_up vS 0 (0 : Int32)), fS, ⟨kf_hla, kf_hmc, kf_hma, kf_hcy, kf_hfr, kf_hkp, kf_hfe, kf_hgo, kf_hpw, kf_hsm, kf_htp, kf_htd, kf_htn, kf_htb, kf_hcs, kf_hcd, kf_hcd0, kf_hcd1, kf_hgf, kf_hgf0, kf_hgf1, kf_him, kf_hc0, kf_hc1, kf_hlr, kf_hik, kf_hr_tf, kf_hby⟩, rfl⟩⟩
  · have hj_ := k4_3
    have go_ := (gOK_of kf_hcy kf_hcs)
    have g3_ := go_.2.2.1
    have hl_ := kf_hla _ (cl8 (a := b) (by omega))
    have hlr_ := kf_hlr _ (cl8 (a := b) (by omega))
    rw [hl_] at hj_
    have hm_ := kf_hmc _ (cl8 (a := b) (by omega)) (by omega)
    have hmr_ := kf_hma _ (cl8 (a := b) (by omega))
    rw [hm_] at hj_ hmr_
    have hn_ : i.toInt + (nn.toInt.toNat : Nat) ≤ 40 := by omega
    have he_ := itm_walk (b := b) (i := i) kf_him (by omega) (by omega) (by omega) hn_
    have hw0_ := mgm_walk (g := g) (a := a) (nn := nn) (by omega) (by omega) he_
    have hg_ := hw0_.mp k4_4
    have hs_ : ∀ j : Nat, stI j → (wkG (itW iz b i) a.toInt g nn.toInt.toNat).2 j = g j := wk_s go_ (by omega) _ (fun j hj => by have y := hg_ j hj; unfold mgG at y; unfold itW; omega)
    have hw_ := wk_cg (p := a.toInt) (g := g) nn.toInt.toNat he_
    have hr_ := k4_5
    have hd_ := k4_6
    rw [hw_] at hr_ hd_
    exact ⟨[0, 1, 2, 3, 4], [10, 11, 12, 13, 14, 0, 1, 2, 3, 4, 5, 6, 7, 8, 9], [1, 2, 3, 4, 5, 0, 0, 0, 0, 0, 0, 0, 0, 0, 0], rfl, by decide +kernel, _, 0, (Or.inr ⟨⟨⟨by omega, by omega⟩, by omega, by omega, by omega⟩, Or.inr ⟨by omega, Or.inr ⟨by unfold roW; omega, Or.inr ⟨hg_, hr_, rfl, rfl⟩⟩⟩⟩), ⟨(va_up (va_up (va_up vS 0 (0 : Int32)) 8 z4_m_seen2) 9 z4_m_mirrors2), (va_up fS 3 z4_cy2), ⟨kf_hla, kf_hmc, kf_hma, k4_0, kf_hfr, kf_hkp, kf_hfe, kf_hgo, kf_hpw, k4_1, kf_htp, kf_htd, kf_htn, kf_htb, (CYs_st kf_hcs k4_2 hs_ g3_.2), hd_, kf_hcd0, kf_hcd1, (gF_cg kf_hgf hs_), kf_hgf0, kf_hgf1, kf_him, kf_hc0, kf_hc1, kf_hlr, kf_hik, kf_hr_tf, kf_hby⟩, rfl⟩⟩
set_option maxHeartbeats 8000000 in
set_option maxRecDepth 100000 in
theorem fY_person (l : Launch) (D : va_G) (cI cZ cC cS : ClassId) (sq : Nat → Nat) (sz : Nat) (ay : Nat → Nat) (ln sn : Nat → Int32) (tz : Int32) (bf : Nat → Int32) (lt th k0 k1 : Int32) (g g0 g1 : Nat → Int) (tn : Int32) (tb : Nat → Int32) (iz : Nat → Int32) (fz : Int32) (a : Int32) (wa : Int32) {wx : va_W} (h : IY cI cZ ay ln sn tz bf lt th k0 k1 g g0 g1 tn tb iz fz wx) : mI l yX9_person wsX9_person 50 2000 D (tyW cI cZ cC cS) sq wx sz [.ref (ay 0), .int a, .int wa] (fun r w => stPerson g a wa r ∧ IY cI cZ ay ln sn tz bf lt th k0 k1 g g0 g1 tn tb iz fz w) := by
  obtain ⟨vS, fS, hf, rfl⟩ := h
  obtain ⟨kf_hla, kf_hmc, kf_hma, kf_hcy, kf_hfr, kf_hkp, kf_hfe, kf_hgo, kf_hpw, kf_hsm, kf_htp, kf_htd, kf_htn, kf_htb, kf_hcs, kf_hcd, kf_hcd0, kf_hcd1, kf_hgf, kf_hgf0, kf_hgf1, kf_him, kf_hc0, kf_hc1, kf_hlr, kf_hik, kf_hr_tf, kf_hby⟩ := hf
  refine b_lfT (n := 15) (s_X9_person l D cI cZ cC cS sq sz (ay 0) (ay 4) a wa (vS 0) fz (ay 1) (ay 2) (ay 3) (ay 5) th (ay 6) tz lt (vS 1) (vS 2) (vS 3) (vS 4) (vS 5) (vS 6) (vS 7) (vS 8) (vS 9) (ay 7) (ay 8) (ay 9) (ay 10) (ay 11) (ay 12) (ay 13) (ay 14) (vS 10) (fS 3) kf_hcy) [0, 4] [1, 2, 3, 5, 6, 7, 8, 9, 10, 11, 12, 13, 14] rfl rfl (by decide +kernel) ?_
  intro r w hw
  rcases hw with ⟨k0_0, er, rfl⟩ | ⟨k1_0, k1_1, rfl⟩
  · exact ⟨[0, 4], [13, 0, 1, 2, 14, 3, 4, 5, 6, 7, 8, 9, 10, 11, 12], [1, 0, 0, 0, 2, 0, 0, 0, 0, 0, 0, 0, 0, 0, 0], rfl, by decide +kernel, (Or.inl ⟨fun z => k0_0 ((on_y kf_hcs).mpr z), by rw [er]; rfl⟩), ⟨(va_up vS 0 (0 : Int32)), fS, ⟨kf_hla, kf_hmc, kf_hma, kf_hcy, kf_hfr, kf_hkp, kf_hfe, kf_hgo, kf_hpw, kf_hsm, kf_htp, kf_htd, kf_htn, kf_htb, kf_hcs, kf_hcd, kf_hcd0, kf_hcd1, kf_hgf, kf_hgf0, kf_hgf1, kf_him, kf_hc0, kf_hc1, kf_hlr, kf_hik, kf_hr_tf, kf_hby⟩, rfl⟩⟩
  · exact ⟨[0, 4], [13, 0, 1, 2, 14, 3, 4, 5, 6, 7, 8, 9, 10, 11, 12], [1, 0, 0, 0, 2, 0, 0, 0, 0, 0, 0, 0, 0, 0, 0], rfl, by decide +kernel, (pers_y kf_hcs kf_hcd k1_0 k1_1), ⟨(va_up vS 0 (0 : Int32)), fS, ⟨kf_hla, kf_hmc, kf_hma, kf_hcy, kf_hfr, kf_hkp, kf_hfe, kf_hgo, kf_hpw, kf_hsm, kf_htp, kf_htd, kf_htn, kf_htb, kf_hcs, kf_hcd, kf_hcd0, kf_hcd1, kf_hgf, kf_hgf0, kf_hgf1, kf_him, kf_hc0, kf_hc1, kf_hlr, kf_hik, kf_hr_tf, kf_hby⟩, rfl⟩⟩
set_option maxHeartbeats 8000000 in
set_option maxRecDepth 100000 in
theorem fY_got (l : Launch) (D : va_G) (cI cZ cC cS : ClassId) (sq : Nat → Nat) (sz : Nat) (ay : Nat → Nat) (ln sn : Nat → Int32) (tz : Int32) (bf : Nat → Int32) (lt th k0 k1 : Int32) (g g0 g1 : Nat → Int) (tn : Int32) (tb : Nat → Int32) (iz : Nat → Int32) (fz : Int32) (a : Int32) {wx : va_W} (h : IY cI cZ ay ln sn tz bf lt th k0 k1 g g0 g1 tn tb iz fz wx) : mI l yX9_got wsX9_got 50 2000 D (tyW cI cZ cC cS) sq wx sz [.ref (ay 0), .int a] (fun r w => stGot th g a r ∧ IY cI cZ ay ln sn tz bf lt th k0 k1 g g0 g1 tn tb iz fz w) := by
  obtain ⟨vS, fS, hf, rfl⟩ := h
  obtain ⟨kf_hla, kf_hmc, kf_hma, kf_hcy, kf_hfr, kf_hkp, kf_hfe, kf_hgo, kf_hpw, kf_hsm, kf_htp, kf_htd, kf_htn, kf_htb, kf_hcs, kf_hcd, kf_hcd0, kf_hcd1, kf_hgf, kf_hgf0, kf_hgf1, kf_him, kf_hc0, kf_hc1, kf_hlr, kf_hik, kf_hr_tf, kf_hby⟩ := hf
  refine b_lfT (n := 15) (s_X9_got l D cI cZ cC cS sq sz (ay 0) (ay 4) a (vS 0) fz (ay 1) (ay 2) (ay 3) (ay 5) th (ay 6) tz lt (vS 1) (vS 2) (vS 3) (vS 4) (vS 5) (vS 6) (vS 7) (vS 8) (vS 9) (ay 7) (ay 8) (ay 9) (ay 10) (ay 11) (ay 12) (ay 13) (ay 14) (vS 10) (fS 3) kf_hcy) [0, 4] [1, 2, 3, 5, 6, 7, 8, 9, 10, 11, 12, 13, 14] rfl rfl (by decide +kernel) ?_
  intro r w hw
  rcases hw with ⟨k0_0, er, rfl⟩ | ⟨k1_0, er, rfl⟩ | ⟨k2_0, k2_1, rfl⟩
  · exact ⟨[0, 4], [13, 0, 1, 2, 14, 3, 4, 5, 6, 7, 8, 9, 10, 11, 12], [1, 0, 0, 0, 2, 0, 0, 0, 0, 0, 0, 0, 0, 0, 0], rfl, by decide +kernel, (Or.inl ⟨k0_0, er⟩), ⟨(va_up vS 0 (0 : Int32)), fS, ⟨kf_hla, kf_hmc, kf_hma, kf_hcy, kf_hfr, kf_hkp, kf_hfe, kf_hgo, kf_hpw, kf_hsm, kf_htp, kf_htd, kf_htn, kf_htb, kf_hcs, kf_hcd, kf_hcd0, kf_hcd1, kf_hgf, kf_hgf0, kf_hgf1, kf_him, kf_hc0, kf_hc1, kf_hlr, kf_hik, kf_hr_tf, kf_hby⟩, rfl⟩⟩
  · exact ⟨[0, 4], [13, 0, 1, 2, 14, 3, 4, 5, 6, 7, 8, 9, 10, 11, 12], [1, 0, 0, 0, 2, 0, 0, 0, 0, 0, 0, 0, 0, 0, 0], rfl, by decide +kernel, (Or.inr (Or.inl ⟨k1_0, er⟩)), ⟨(va_up vS 0 (0 : Int32)), fS, ⟨kf_hla, kf_hmc, kf_hma, kf_hcy, kf_hfr, kf_hkp, kf_hfe, kf_hgo, kf_hpw, kf_hsm, kf_htp, kf_htd, kf_htn, kf_htb, kf_hcs, kf_hcd, kf_hcd0, kf_hcd1, kf_hgf, kf_hgf0, kf_hgf1, kf_him, kf_hc0, kf_hc1, kf_hlr, kf_hik, kf_hr_tf, kf_hby⟩, rfl⟩⟩
  · exact ⟨[0, 4], [13, 0, 1, 2, 14, 3, 4, 5, 6, 7, 8, 9, 10, 11, 12], [1, 0, 0, 0, 2, 0, 0, 0, 0, 0, 0, 0, 0, 0, 0], rfl, by decide +kernel, (Or.inr (Or.inr ⟨k2_0, k2_1.trans (gotY kf_hcs kf_hcd k2_0.2).1⟩)), ⟨(va_up vS 0 (0 : Int32)), fS, ⟨kf_hla, kf_hmc, kf_hma, kf_hcy, kf_hfr, kf_hkp, kf_hfe, kf_hgo, kf_hpw, kf_hsm, kf_htp, kf_htd, kf_htn, kf_htb, kf_hcs, kf_hcd, kf_hcd0, kf_hcd1, kf_hgf, kf_hgf0, kf_hgf1, kf_him, kf_hc0, kf_hc1, kf_hlr, kf_hik, kf_hr_tf, kf_hby⟩, rfl⟩⟩
set_option maxHeartbeats 8000000 in
set_option maxRecDepth 100000 in
theorem fY_witnesses (l : Launch) (D : va_G) (cI cZ cC cS : ClassId) (sq : Nat → Nat) (sz : Nat) (ay : Nat → Nat) (ln sn : Nat → Int32) (tz : Int32) (bf : Nat → Int32) (lt th k0 k1 : Int32) (g g0 g1 : Nat → Int) (tn : Int32) (tb : Nat → Int32) (iz : Nat → Int32) (fz : Int32) (a : Int32) {wx : va_W} (h : IY cI cZ ay ln sn tz bf lt th k0 k1 g g0 g1 tn tb iz fz wx) : mI l yX9_witnesses wsX9_witnesses 50 2000 D (tyW cI cZ cC cS) sq wx sz [.ref (ay 0), .int a] (fun r w => stWit th g a r ∧ IY cI cZ ay ln sn tz bf lt th k0 k1 g g0 g1 tn tb iz fz w) := by
  obtain ⟨vS, fS, hf, rfl⟩ := h
  obtain ⟨kf_hla, kf_hmc, kf_hma, kf_hcy, kf_hfr, kf_hkp, kf_hfe, kf_hgo, kf_hpw, kf_hsm, kf_htp, kf_htd, kf_htn, kf_htb, kf_hcs, kf_hcd, kf_hcd0, kf_hcd1, kf_hgf, kf_hgf0, kf_hgf1, kf_him, kf_hc0, kf_hc1, kf_hlr, kf_hik, kf_hr_tf, kf_hby⟩ := hf
  refine b_lfT (n := 15) (s_X9_witnesses l D cI cZ cC cS sq sz (ay 0) (ay 4) a (vS 0) fz (ay 1) (ay 2) (ay 3) (ay 5) th (ay 6) tz lt (vS 1) (vS 2) (vS 3) (vS 4) (vS 5) (vS 6) (vS 7) (vS 8) (vS 9) (ay 7) (ay 8) (ay 9) (ay 10) (ay 11) (ay 12) (ay 13) (ay 14) (vS 10) (fS 3) kf_hcy) [0, 4] [1, 2, 3, 5, 6, 7, 8, 9, 10, 11, 12, 13, 14] rfl rfl (by decide +kernel) ?_
  intro r w hw
  rcases hw with ⟨k0_0, er, rfl⟩ | ⟨k1_0, er, rfl⟩ | ⟨k2_0, k2_1, rfl⟩
  · exact ⟨[0, 4], [13, 0, 1, 2, 14, 3, 4, 5, 6, 7, 8, 9, 10, 11, 12], [1, 0, 0, 0, 2, 0, 0, 0, 0, 0, 0, 0, 0, 0, 0], rfl, by decide +kernel, (Or.inl ⟨k0_0, er⟩), ⟨(va_up vS 0 (0 : Int32)), fS, ⟨kf_hla, kf_hmc, kf_hma, kf_hcy, kf_hfr, kf_hkp, kf_hfe, kf_hgo, kf_hpw, kf_hsm, kf_htp, kf_htd, kf_htn, kf_htb, kf_hcs, kf_hcd, kf_hcd0, kf_hcd1, kf_hgf, kf_hgf0, kf_hgf1, kf_him, kf_hc0, kf_hc1, kf_hlr, kf_hik, kf_hr_tf, kf_hby⟩, rfl⟩⟩
  · exact ⟨[0, 4], [13, 0, 1, 2, 14, 3, 4, 5, 6, 7, 8, 9, 10, 11, 12], [1, 0, 0, 0, 2, 0, 0, 0, 0, 0, 0, 0, 0, 0, 0], rfl, by decide +kernel, (Or.inr (Or.inl ⟨k1_0, er⟩)), ⟨(va_up vS 0 (0 : Int32)), fS, ⟨kf_hla, kf_hmc, kf_hma, kf_hcy, kf_hfr, kf_hkp, kf_hfe, kf_hgo, kf_hpw, kf_hsm, kf_htp, kf_htd, kf_htn, kf_htb, kf_hcs, kf_hcd, kf_hcd0, kf_hcd1, kf_hgf, kf_hgf0, kf_hgf1, kf_him, kf_hc0, kf_hc1, kf_hlr, kf_hik, kf_hr_tf, kf_hby⟩, rfl⟩⟩
  · exact ⟨[0, 4], [13, 0, 1, 2, 14, 3, 4, 5, 6, 7, 8, 9, 10, 11, 12], [1, 0, 0, 0, 2, 0, 0, 0, 0, 0, 0, 0, 0, 0, 0], rfl, by decide +kernel, (Or.inr (Or.inr ⟨k2_0, k2_1.trans (gotY kf_hcs kf_hcd k2_0.2).2⟩)), ⟨(va_up vS 0 (0 : Int32)), fS, ⟨kf_hla, kf_hmc, kf_hma, kf_hcy, kf_hfr, kf_hkp, kf_hfe, kf_hgo, kf_hpw, kf_hsm, kf_htp, kf_htd, kf_htn, kf_htb, kf_hcs, kf_hcd, kf_hcd0, kf_hcd1, kf_hgf, kf_hgf0, kf_hgf1, kf_him, kf_hc0, kf_hc1, kf_hlr, kf_hik, kf_hr_tf, kf_hby⟩, rfl⟩⟩
