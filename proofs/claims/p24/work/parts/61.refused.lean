-- refusesAny, refused: each call answers its error, and the state is as it was
theorem q_notro {x : Int32} {m : Nat} (hm : m < 65536) (h : x.toInt < 0 ∨ (m : Int) ≤ x.toInt) : ¬ q_ro x m := by
  rintro ⟨r, hr, rfl⟩
  rw [nI_toInt (by omega)] at h
  omega
set_option maxHeartbeats 4000000 in
theorem refuses_0 {m f k : Nat} {c w : Nat → Int32} (hR : SR c w) (h0 : c 0 = nI m) (hm8 : m ≤ 8) (hm2 : 2 ≤ m) (hf : f < 7) (sf ra rk rt tl ta tt : Int32) (hs ss pp rn tp : Nat → Int32) : p_L_refusesAny 20000 (nI 0) c (nI f) (nI k) hs sf ss (nI 0) pp ra rk rt rn tl ta tt tp = some (nI 1, c, nI f, nI k, va_cpy c hs 0 (f * 225) 225, sf, ss, nI 0, pp, nI 0, nI 0, nI 0, rn, tl, ta, tt, tp) := by
  obtain ⟨⟨m', h8, h0', h3, hr⟩, -⟩ := hR
  obtain rfl : m = m' := (nI_eq (by omega) (by omega)).mp (h0.symm.trans h0')
  obtain ⟨t, t1, t2, t3, -⟩ := hr 0 (by omega)
  have p1 := l_prep (N := 20000) hf c hs (nI k)
  have p2 := l_prep2 (N := 20000) hf c hs (nI k)
  generalize va_cpy c hs 0 (f * 225) 225 = X at p1 p2 ⊢
  have hx2 : ¬ q_ro (-nI 1) m := q_notro (by omega) (Or.inl (by decide))
  have hx3 : ¬ q_in (-nI 1) 0 23 := by unfold q_in; decide
  have hx4 : ¬ q_in (-nI 1) 0 30 := by unfold q_in; decide
  have i0 : q_in (nI 0) 0 23 := by unfold q_in; decide
  have i1 : q_in (nI 0) 0 30 := by unfold q_in; decide
  have hkt : ¬ q_ro (-nI 1) t := q_notro (by omega) (Or.inl (by decide))
  have ok1 : ∀ {x3 x4 : Int32}, q_in x3 0 23 → q_in x4 0 30 → p_X6_pairError 20000 (nI 0) (nI 1) x3 x4 c = some (nI 0) := fun a b => pe_0 h8 h0 (by omega) (by omega) (by omega) a b
  have er1 : ∀ {x2 x3 x4 : Int32}, p_X6_pairError 20000 (-nI 1) x2 x3 x4 c = some (-nI 1) := pe_1 h8 h0 hx2
  have er2 : ∀ {x3 x4 : Int32}, p_X6_pairError 20000 (nI 0) (-nI 1) x3 x4 c = some (-nI 1) := pe_2 h8 h0 (by omega) hx2
  have er3 : ∀ {u : Nat} {x3 x4 : Int32}, u < m → p_X6_pairError 20000 (nI u) (nI u) x3 x4 c = some (-nI 2) := fun h => pe_3 h8 h0 h
  have er4 : ∀ {x4 : Int32}, p_X6_pairError 20000 (nI 0) (nI 1) (-nI 1) x4 c = some (-nI 2) := pe_4 h8 h0 (by omega) (by omega) (by omega) hx3
  have er5 : p_X6_pairError 20000 (nI 0) (nI 1) (nI 0) (-nI 1) c = some (-nI 2) := pe_5 h8 h0 (by omega) (by omega) (by omega) i0 hx4
  have hh1 : p_X6_put 20000 (0 : Int64) (nI 0) pp = some (-nI 2, nI 0, pp) := l_put (by decide +kernel)
  have hh2 : p_X6_put 20000 (127 : Int64) (nI 0) pp = some (-nI 2, nI 0, pp) := l_put (by decide +kernel)
  have b749 : b_L_refusesAny_749 20000 (nI 0) (0 : Int64) c (nI f) (nI k) X sf ss (nI 0) pp (nI 0) (nI 0) (nI 0) rn tl ta tt tp = some (nI 1, c, nI f, nI k, X, sf, ss, nI 0, pp, nI 0, nI 0, nI 0, rn, tl, ta, tt, tp) := by
    unfold b_L_refusesAny_749
    simp only [q_lit]
    rw [hh1, k_c3_some, if_pos rfl, if_pos trivial, hh2, k_c3_some, if_pos rfl]
  have hh3 : p_X6_save 20000 (-nI 1) c sf ss = some (-nI 2, sf, ss) := l_save1 (by unfold q_in; decide)
  have hh4 : p_X6_restore 20000 (-nI 1) c (nI f) (nI k) X sf ss = some (-nI 2, c, nI f, nI k, X) := l_restore p2 (by omega) (by omega) (l_fetch1 (by unfold q_in; decide))
  have b711 : b_L_refusesAny_711 20000 (nI 0) (-nI 1) c (nI f) (nI k) X sf ss (nI 0) pp (nI 0) (nI 0) (nI 0) rn tl ta tt tp = some (nI 1, c, nI f, nI k, X, sf, ss, nI 0, pp, nI 0, nI 0, nI 0, rn, tl, ta, tt, tp) := by
    unfold b_L_refusesAny_711
    simp only [q_lit]
    rw [hh3, k_c3_some, if_pos rfl, if_pos trivial, hh4, k_c5_some, if_pos rfl, if_pos trivial, b749]
  have hh5 : p_X6_bestOffset 20000 (nI 0) (nI 1) (-nI 1) c tl ta tt tp = some (-nI 2, tl, tp) := l_best (by omega) (by omega) (qe_2 (ok1 i0 i1) (by unfold q_in; decide))
  have hh6 : p_X6_bestOffset 20000 (nI 1) (nI 1) (nI 0) c tl ta tt tp = some (-nI 2, tl, tp) := l_best (by omega) (by omega) (qe_1 (by omega) (by omega) (er3 (by omega)))
  have hh7 : p_X6_thickest 20000 (-nI 1) (nI 0) (nI 0) (nI 0) c tl ta tt tp = some (-nI 1, tl, ta, tt, tp) := l_thick (by omega) (by omega) er1
  have hh8 : p_X6_thickest 20000 (nI 0) (nI 1) (nI 0) (-nI 1) c tl ta tt tp = some (-nI 2, tl, ta, tt, tp) := l_thick (by omega) (by omega) er5
  have b653 : b_L_refusesAny_653 20000 (nI 0) (-nI 1) (-nI 1) (-nI 1) (nI 1) (nI 0) c (nI f) (nI k) X sf ss (nI 0) pp (nI 0) (nI 0) (nI 0) rn tl ta tt tp = some (nI 1, c, nI f, nI k, X, sf, ss, nI 0, pp, nI 0, nI 0, nI 0, rn, tl, ta, tt, tp) := by
    unfold b_L_refusesAny_653
    simp only [q_lit]
    rw [hh5, k_c3_some, if_pos rfl, hh6, k_c3_some, if_pos rfl, hh7, k_c5_some, if_pos rfl, hh8, k_c5_some, if_pos rfl, if_pos trivial, b711]
  have hh9 : p_X6_why 20000 (nI 0) (nI 1) (nI 0) (nI 0) (-nI 1) c tl ta tt tp = some (-nI 2, tl, tp) := l_why (by omega) (by omega) (qe_2 (ok1 i0 i1) (by unfold q_in; decide))
  have hh10 : p_X6_why 20000 (nI 0) (nI 1) (-nI 1) (nI 0) (nI 0) c tl ta tt tp = some (-nI 2, tl, tp) := l_why (by omega) (by omega) (qe_1 (by omega) (by omega) er4)
  have hh11 : p_X6_leastGap 20000 (-nI 1) (nI 0) (nI 0) c tl ta tt tp = some (-nI 1, tl, tp) := l_least (by omega) (by omega) er1
  have hh12 : p_X6_leastGap 20000 (nI 0) (nI 1) (-nI 1) c tl ta tt tp = some (-nI 2, tl, tp) := l_least (by omega) (by omega) er4
  have hh13 : p_X6_bestOffset 20000 (nI 0) (-nI 1) (nI 0) c tl ta tt tp = some (-nI 1, tl, tp) := l_best (by omega) (by omega) (qe_1 (by omega) (by omega) er2)
  have b585 : b_L_refusesAny_585 20000 (nI 0) (-nI 1) (-nI 1) (-nI 1) (-nI 1) (nI 0) (nI 0) (nI 1) (nI 0) c (nI f) (nI k) X sf ss (nI 0) pp (nI 0) (nI 0) (nI 0) rn tl ta tt tp = some (nI 1, c, nI f, nI k, X, sf, ss, nI 0, pp, nI 0, nI 0, nI 0, rn, tl, ta, tt, tp) := by
    unfold b_L_refusesAny_585
    simp only [q_lit]
    rw [hh9, k_c3_some, if_pos rfl, hh10, k_c3_some, if_pos rfl, hh11, k_c3_some, if_pos rfl, hh12, k_c3_some, if_pos rfl, hh13, k_c3_some, if_pos rfl, if_pos trivial, b653]
  have hh14 : p_X6_pair 20000 (nI 0) (nI 1) (nI 0) (nI 0) (-nI 1) c tl ta tt tp = some (-nI 2, tl, tp) := l_pair (by omega) (by omega) (qe_2 (ok1 i0 i1) (by unfold q_in; decide))
  have hh15 : p_X6_pair 20000 (nI 0) (nI 0) (nI 0) (nI 0) (nI 0) c tl ta tt tp = some (-nI 2, tl, tp) := l_pair (by omega) (by omega) (qe_1 (by omega) (by omega) (er3 (by omega)))
  have hh16 : p_X6_why 20000 (nI 0) (-nI 1) (nI 0) (nI 0) (nI 9) c tl ta tt tp = some (-nI 1, tl, tp) := l_why (by omega) (by omega) (qe_1 (by omega) (by omega) er2)
  have b535 : b_L_refusesAny_535 20000 (nI 0) (-nI 1) (-nI 1) (-nI 1) (-nI 1) (nI 0) (nI 0) (nI 1) (nI 0) c (nI f) (nI k) X sf ss (nI 0) pp (nI 0) (nI 0) (nI 0) rn tl ta tt tp = some (nI 1, c, nI f, nI k, X, sf, ss, nI 0, pp, nI 0, nI 0, nI 0, rn, tl, ta, tt, tp) := by
    unfold b_L_refusesAny_535
    simp only [q_lit]
    rw [hh14, k_c3_some, if_pos rfl, hh15, k_c3_some, if_pos rfl, hh16, k_c3_some, if_pos rfl, if_pos trivial, b585]
  have hh17 : p_X6_count 20000 (-nI 1) c (nI f) (nI k) (nI 0) = some (-nI 2) := l_count1 (by unfold q_in; decide)
  have hh18 : p_X6_pair 20000 (-nI 1) (nI 0) (nI 0) (nI 0) (nI 9) c tl ta tt tp = some (-nI 1, tl, tp) := l_pair (by omega) (by omega) (qe_1 (by omega) (by omega) er1)
  have hh19 : p_X6_pair 20000 (nI 0) (nI 1) (-nI 1) (nI 0) (nI 0) c tl ta tt tp = some (-nI 2, tl, tp) := l_pair (by omega) (by omega) (qe_1 (by omega) (by omega) er4)
  have hh20 : p_X6_pair 20000 (nI 0) (nI 1) (nI 0) (-nI 1) (nI 0) c tl ta tt tp = some (-nI 2, tl, tp) := l_pair (by omega) (by omega) (qe_1 (by omega) (by omega) er5)
  have b468 : b_L_refusesAny_468 20000 (nI 0) (-nI 1) (-nI 1) (-nI 1) (-nI 1) c (nI f) (nI k) X sf ss (nI 0) pp (nI 0) (nI 0) (nI 0) rn tl ta tt tp = some (nI 1, c, nI f, nI k, X, sf, ss, nI 0, pp, nI 0, nI 0, nI 0, rn, tl, ta, tt, tp) := by
    unfold b_L_refusesAny_468
    simp only [q_lit]
    rw [hh17, k_c1_some, if_pos rfl, hh18, k_c3_some, if_pos rfl, hh19, k_c3_some, if_pos rfl, hh20, k_c3_some, if_pos rfl, if_pos trivial, b535]
  have hh21 : p_X6_of 20000 (nI 0) (-nI 1) c = some (-nI 2) := l_of2 h8 h0 (by omega) (by unfold q_in; decide)
  have hh22 : p_X6_tooth 20000 (-nI 1) (nI 0) c = some (-nI 1) := l_tooth1 h8 h0 hx2
  have hh23 : p_X6_tooth 20000 (nI 0) (-nI 1) c = some (-nI 1) := l_tooth2 h8 h0 (by omega) t2 t3 hkt
  have b420 : b_L_refusesAny_420 20000 (nI 0) (-nI 1) (-nI 1) (-nI 1) (-nI 1) (nI 0) c (nI f) (nI k) X sf ss (nI 0) pp (nI 0) (nI 0) (nI 0) rn tl ta tt tp = some (nI 1, c, nI f, nI k, X, sf, ss, nI 0, pp, nI 0, nI 0, nI 0, rn, tl, ta, tt, tp) := by
    unfold b_L_refusesAny_420
    simp only [q_lit]
    rw [hh21, k_c1_some, if_pos rfl, hh22, k_c1_some, if_pos rfl, if_pos trivial, hh23, k_c1_some, if_pos rfl, if_pos trivial, b468]
  have hh24 : p_X6_run 20000 (nI 0) (nI 1) (nI 0) (nI 0) (nI 1) (nI 0) c (nI f) (nI k) X tl ta tt tp = some (-nI 2, c, nI f, nI k, X, tl, ta, tt, tp) := l_run p2 (by omega) (by omega) (l_rc3 (ok1 i0 i1) (by unfold q_in; decide) (by unfold q_in; decide))
  have hh25 : p_X6_run 20000 (nI 1) (nI 1) (nI 0) (nI 30) (nI 1) (nI 1) c (nI f) (nI k) X tl ta tt tp = some (-nI 2, c, nI f, nI k, X, tl, ta, tt, tp) := l_run p2 (by omega) (by omega) (l_rc1 (by omega) (by omega) (er3 (by omega)))
  have hh26 : p_X6_of 20000 (-nI 1) (nI 9) c = some (-nI 1) := l_of1 h8 h0 hx2
  have b373 : b_L_refusesAny_373 20000 (nI 0) (-nI 1) (-nI 1) (-nI 1) (nI 0) (nI 1) (nI 0) (nI 0) (nI 1) (nI 0) c (nI f) (nI k) X sf ss (nI 0) pp (nI 0) (nI 0) (nI 0) rn tl ta tt tp = some (nI 1, c, nI f, nI k, X, sf, ss, nI 0, pp, nI 0, nI 0, nI 0, rn, tl, ta, tt, tp) := by
    unfold b_L_refusesAny_373
    simp only [q_lit]
    rw [hh24, k_c9_some, if_pos rfl, hh25, k_c9_some, if_pos rfl, hh26, k_c1_some, if_pos rfl, if_pos trivial, b420]
  have hh27 : p_X6_card 20000 (nI 1) (-nI 1) c (nI f) (nI k) X = some (-nI 2, c, nI f, nI k, X) := l_card p2 (by omega) (by omega) (l_card2 (by unfold q_in; decide) (by unfold q_in; decide))
  have hh28 : p_X6_carryOut 20000 c (nI f) (nI k) X (nI 0) pp ra rk rt rn tl ta tt tp = some (-nI 3, c, nI f, nI k, X, nI 0, nI 0, nI 0, nI 0, rn, tl, ta, tt, tp) := l_carry (by omega)
  have hh29 : p_X6_run 20000 (-nI 1) (nI 0) (nI 24) (nI 0) (nI 1) (nI 1) c (nI f) (nI k) X tl ta tt tp = some (-nI 1, c, nI f, nI k, X, tl, ta, tt, tp) := l_run p2 (by omega) (by omega) (l_rc1 (by omega) (by omega) er1)
  have hh30 : p_X6_run 20000 (nI 0) (-nI 1) (nI 24) (nI 0) (nI 1) (nI 1) c (nI f) (nI k) X tl ta tt tp = some (-nI 1, c, nI f, nI k, X, tl, ta, tt, tp) := l_run p2 (by omega) (by omega) (l_rc1 (by omega) (by omega) er2)
  have hh31 : p_X6_run 20000 (nI 0) (nI 1) (-nI 1) (nI 0) (nI 1) (nI 1) c (nI f) (nI k) X tl ta tt tp = some (-nI 2, c, nI f, nI k, X, tl, ta, tt, tp) := l_run p2 (by omega) (by omega) (l_rc1 (by omega) (by omega) er4)
  have hh32 : p_X6_run 20000 (nI 0) (nI 1) (nI 0) (-nI 1) (nI 1) (nI 1) c (nI f) (nI k) X tl ta tt tp = some (-nI 2, c, nI f, nI k, X, tl, ta, tt, tp) := l_run p2 (by omega) (by omega) (l_rc1 (by omega) (by omega) er5)
  have hh33 : p_X6_run 20000 (nI 0) (nI 1) (nI 0) (nI 0) (nI 0) (nI 1) c (nI f) (nI k) X tl ta tt tp = some (-nI 2, c, nI f, nI k, X, tl, ta, tt, tp) := l_run p2 (by omega) (by omega) (l_rc2 (ok1 i0 i1) (by unfold q_in; decide))
  have b253 : b_L_refusesAny_253 20000 (nI 0) (-nI 1) (-nI 1) (-nI 1) (-nI 1) (nI 1) c (nI f) (nI k) X sf ss (nI 0) pp ra rk rt rn tl ta tt tp = some (nI 1, c, nI f, nI k, X, sf, ss, nI 0, pp, nI 0, nI 0, nI 0, rn, tl, ta, tt, tp) := by
    unfold b_L_refusesAny_253
    simp only [q_lit]
    rw [hh27, k_c5_some, if_pos rfl, hh28, k_c14_some, if_pos rfl, hh29, k_c9_some, if_pos rfl, hh30, k_c9_some, if_pos rfl, hh31, k_c9_some, if_pos rfl, hh32, k_c9_some, if_pos rfl, if_pos trivial, hh33, k_c9_some, if_pos rfl, if_pos trivial, b373]
  have hh34 : p_X6_file 20000 (nI 0) (nI 0) (-nI 10) c (nI f) (nI k) X = some (-nI 2, c, nI f, nI k, X) := l_file p2 (by omega) (by omega) (l_file3 h8 h0 (by omega) t2 t3 (by omega) (by unfold q_in; decide))
  have hh35 : p_X6_melt 20000 (-nI 1) c (nI f) (nI k) X = some (-nI 1, c, nI f, nI k, X) := l_melt p2 (by omega) (by omega) (l_melt1 h8 h0 hx2)
  have hh36 : p_X6_card 20000 (nI 0) (nI 0) c (nI f) (nI k) X = some (-nI 2, c, nI f, nI k, X) := l_card p2 (by omega) (by omega) (l_card1 (by unfold q_in; decide))
  have b204 : b_L_refusesAny_204 20000 (nI 0) (-nI 1) (-nI 1) (-nI 1) (-nI 10) (nI 0) (nI 0) c (nI f) (nI k) X sf ss (nI 0) pp ra rk rt rn tl ta tt tp = some (nI 1, c, nI f, nI k, X, sf, ss, nI 0, pp, nI 0, nI 0, nI 0, rn, tl, ta, tt, tp) := by
    unfold b_L_refusesAny_204
    simp only [q_lit]
    rw [hh34, k_c5_some, if_pos rfl, hh35, k_c5_some, if_pos rfl, if_pos trivial, hh36, k_c5_some, if_pos rfl, if_pos trivial, b253]
  have hh37 : p_X6_roller 20000 (nI 2) (-nI 10) c (nI f) (nI k) X = some (-nI 2, c, nI f, nI k, X) := l_roller p2 (by omega) (by omega) (l_rol2 (by unfold q_in; decide) (by unfold q_in; decide))
  have hh38 : p_X6_file 20000 (-nI 1) (nI 0) (nI 10) c (nI f) (nI k) X = some (-nI 1, c, nI f, nI k, X) := l_file p2 (by omega) (by omega) (l_file1 h8 h0 hx2)
  have hh39 : p_X6_file 20000 (nI 0) (-nI 1) (nI 10) c (nI f) (nI k) X = some (-nI 1, c, nI f, nI k, X) := l_file p2 (by omega) (by omega) (l_file2 h8 h0 (by omega) t2 t3 hkt)
  have b149 : b_L_refusesAny_149 20000 (nI 0) (-nI 1) (-nI 1) (-nI 1) (-nI 10) (nI 2) c (nI f) (nI k) X sf ss (nI 0) pp ra rk rt rn tl ta tt tp = some (nI 1, c, nI f, nI k, X, sf, ss, nI 0, pp, nI 0, nI 0, nI 0, rn, tl, ta, tt, tp) := by
    unfold b_L_refusesAny_149
    simp only [q_lit]
    rw [hh37, k_c5_some, if_pos rfl, hh38, k_c5_some, if_pos rfl, if_pos trivial, hh39, k_c5_some, if_pos rfl, if_pos trivial, b204]
  have hh40 : p_X6_set 20000 (nI 2) (nI 0) c (nI f) (nI k) X = some (-nI 2, c, nI f, nI k, X) := l_set p2 (by omega) (by omega) (l_set3 (by unfold q_in; decide))
  have hh41 : p_X6_roller 20000 (nI 1) (nI 0) c (nI f) (nI k) X = some (-nI 2, c, nI f, nI k, X) := l_roller p2 (by omega) (by omega) (l_rol1 (by unfold q_in; decide))
  have b108 : b_L_refusesAny_108 20000 (nI 0) (-nI 1) (-nI 1) (-nI 1) (nI 0) (nI 2) c (nI f) (nI k) X sf ss (nI 0) pp ra rk rt rn tl ta tt tp = some (nI 1, c, nI f, nI k, X, sf, ss, nI 0, pp, nI 0, nI 0, nI 0, rn, tl, ta, tt, tp) := by
    unfold b_L_refusesAny_108
    simp only [q_lit]
    rw [hh40, k_c5_some, if_pos rfl, if_pos trivial, hh41, k_c5_some, if_pos rfl, if_pos trivial, b149]
  have hh42 : p_X6_set 20000 (nI 0) (-nI 1) c (nI f) (nI k) X = some (-nI 2, c, nI f, nI k, X) := l_set p2 (by omega) (by omega) (l_set2 (by omega) (by unfold q_in; decide))
  have hh43 : p_X6_set 20000 (nI 1) (-nI 1) c (nI f) (nI k) X = some (-nI 2, c, nI f, nI k, X) := l_set p2 (by omega) (by omega) (l_set2 (by omega) (by unfold q_in; decide))
  have b68 : b_L_refusesAny_68 20000 (nI 0) (-nI 1) (-nI 1) (-nI 1) (-nI 1) (nI 0) c (nI f) (nI k) X sf ss (nI 0) pp ra rk rt rn tl ta tt tp = some (nI 1, c, nI f, nI k, X, sf, ss, nI 0, pp, nI 0, nI 0, nI 0, rn, tl, ta, tt, tp) := by
    unfold b_L_refusesAny_68
    simp only [q_lit]
    rw [hh42, k_c5_some, if_pos rfl, if_pos trivial, hh43, k_c5_some, if_pos rfl, if_pos trivial, b108]
  have hh44 : p_X6_set 20000 (-nI 1) (nI 1) c (nI f) (nI k) hs = some (-nI 2, c, nI f, nI k, X) := l_set p1 (by omega) (by omega) (l_set1 (by unfold q_in; decide))
  have b35 : b_L_refusesAny_35 20000 (nI 0) (-nI 1) (-nI 1) (-nI 1) c (nI f) (nI k) hs sf ss (nI 0) pp ra rk rt rn tl ta tt tp = some (nI 1, c, nI f, nI k, X, sf, ss, nI 0, pp, nI 0, nI 0, nI 0, rn, tl, ta, tt, tp) := by
    unfold b_L_refusesAny_35
    simp only [q_lit]
    rw [if_pos trivial, hh44, k_c5_some, if_pos rfl, if_pos trivial, b68]
  unfold p_L_refusesAny
  simp only [q_lit]
  rw [if_pos trivial, if_pos trivial, if_pos trivial, b35]
set_option maxHeartbeats 4000000 in
theorem refuses_1 {m f k : Nat} {c w : Nat → Int32} (hR : SR c w) (h0 : c 0 = nI m) (hm8 : m ≤ 8) (hm2 : 2 ≤ m) (hf : f < 7) (sf ra rk rt tl ta tt : Int32) (hs ss pp rn tp : Nat → Int32) : p_L_refusesAny 20000 (nI 1) c (nI f) (nI k) hs sf ss (nI 0) pp ra rk rt rn tl ta tt tp = some (nI 1, c, nI f, nI k, va_cpy c hs 0 (f * 225) 225, sf, ss, nI 0, pp, nI 0, nI 0, nI 0, rn, tl, ta, tt, tp) := by
  obtain ⟨⟨m', h8, h0', h3, hr⟩, -⟩ := hR
  obtain rfl : m = m' := (nI_eq (by omega) (by omega)).mp (h0.symm.trans h0')
  obtain ⟨t, t1, t2, t3, -⟩ := hr 0 (by omega)
  have p1 := l_prep (N := 20000) hf c hs (nI k)
  have p2 := l_prep2 (N := 20000) hf c hs (nI k)
  generalize va_cpy c hs 0 (f * 225) 225 = X at p1 p2 ⊢
  have hx2 : ¬ q_ro (nI m) m := q_notro (by omega) (Or.inr (by rw [nI_toInt (by omega)]; omega))
  have hx3 : ¬ q_in (nI 24) 0 23 := by unfold q_in; decide
  have hx4 : ¬ q_in (nI 31) 0 30 := by unfold q_in; decide
  have i0 : q_in (nI 0) 0 23 := by unfold q_in; decide
  have i1 : q_in (nI 0) 0 30 := by unfold q_in; decide
  have hkt : ¬ q_ro (nI 24) t := q_notro (by omega) (Or.inr (by rw [nI_toInt (by omega)]; omega))
  have ok1 : ∀ {x3 x4 : Int32}, q_in x3 0 23 → q_in x4 0 30 → p_X6_pairError 20000 (nI 0) (nI 1) x3 x4 c = some (nI 0) := fun a b => pe_0 h8 h0 (by omega) (by omega) (by omega) a b
  have er1 : ∀ {x2 x3 x4 : Int32}, p_X6_pairError 20000 (nI m) x2 x3 x4 c = some (-nI 1) := pe_1 h8 h0 hx2
  have er2 : ∀ {x3 x4 : Int32}, p_X6_pairError 20000 (nI 0) (nI m) x3 x4 c = some (-nI 1) := pe_2 h8 h0 (by omega) hx2
  have er3 : ∀ {u : Nat} {x3 x4 : Int32}, u < m → p_X6_pairError 20000 (nI u) (nI u) x3 x4 c = some (-nI 2) := fun h => pe_3 h8 h0 h
  have er4 : ∀ {x4 : Int32}, p_X6_pairError 20000 (nI 0) (nI 1) (nI 24) x4 c = some (-nI 2) := pe_4 h8 h0 (by omega) (by omega) (by omega) hx3
  have er5 : p_X6_pairError 20000 (nI 0) (nI 1) (nI 0) (nI 31) c = some (-nI 2) := pe_5 h8 h0 (by omega) (by omega) (by omega) i0 hx4
  have hj : ¬ nI 1 = nI 0 := by decide
  have hh1 : p_X6_put 20000 (32 : Int64) (nI 0) pp = some (-nI 2, nI 0, pp) := l_put (by decide +kernel)
  have hh2 : p_X6_put 20000 (11008 : Int64) (nI 0) pp = some (-nI 2, nI 0, pp) := l_put (by decide +kernel)
  have b749 : b_L_refusesAny_749 20000 (nI 1) (32 : Int64) c (nI f) (nI k) X sf ss (nI 0) pp (nI 0) (nI 0) (nI 0) rn tl ta tt tp = some (nI 1, c, nI f, nI k, X, sf, ss, nI 0, pp, nI 0, nI 0, nI 0, rn, tl, ta, tt, tp) := by
    unfold b_L_refusesAny_749
    simp only [q_lit]
    rw [hh1, k_c3_some, if_pos rfl, if_neg hj, hh2, k_c3_some, if_pos rfl]
  have hh3 : p_X6_save 20000 (nI 2) c sf ss = some (-nI 2, sf, ss) := l_save1 (by unfold q_in; decide)
  have hh4 : p_X6_restore 20000 (nI 2) c (nI f) (nI k) X sf ss = some (-nI 2, c, nI f, nI k, X) := l_restore p2 (by omega) (by omega) (l_fetch1 (by unfold q_in; decide))
  have b711 : b_L_refusesAny_711 20000 (nI 1) (nI 2) c (nI f) (nI k) X sf ss (nI 0) pp (nI 0) (nI 0) (nI 0) rn tl ta tt tp = some (nI 1, c, nI f, nI k, X, sf, ss, nI 0, pp, nI 0, nI 0, nI 0, rn, tl, ta, tt, tp) := by
    unfold b_L_refusesAny_711
    simp only [q_lit]
    rw [hh3, k_c3_some, if_pos rfl, if_neg hj, hh4, k_c5_some, if_pos rfl, if_neg hj, b749]
  have hh5 : p_X6_bestOffset 20000 (nI 0) (nI 1) (nI 2) c tl ta tt tp = some (-nI 2, tl, tp) := l_best (by omega) (by omega) (qe_2 (ok1 i0 i1) (by unfold q_in; decide))
  have hh6 : p_X6_bestOffset 20000 (nI 1) (nI 1) (nI 0) c tl ta tt tp = some (-nI 2, tl, tp) := l_best (by omega) (by omega) (qe_1 (by omega) (by omega) (er3 (by omega)))
  have hh7 : p_X6_thickest 20000 (nI m) (nI 0) (nI 0) (nI 0) c tl ta tt tp = some (-nI 1, tl, ta, tt, tp) := l_thick (by omega) (by omega) er1
  have hh8 : p_X6_thickest 20000 (nI 0) (nI 1) (nI 0) (nI 31) c tl ta tt tp = some (-nI 2, tl, ta, tt, tp) := l_thick (by omega) (by omega) er5
  have b653 : b_L_refusesAny_653 20000 (nI 1) (nI m) (nI 31) (nI 2) (nI 1) (nI 0) c (nI f) (nI k) X sf ss (nI 0) pp (nI 0) (nI 0) (nI 0) rn tl ta tt tp = some (nI 1, c, nI f, nI k, X, sf, ss, nI 0, pp, nI 0, nI 0, nI 0, rn, tl, ta, tt, tp) := by
    unfold b_L_refusesAny_653
    simp only [q_lit]
    rw [hh5, k_c3_some, if_pos rfl, hh6, k_c3_some, if_pos rfl, hh7, k_c5_some, if_pos rfl, hh8, k_c5_some, if_pos rfl, if_neg hj, b711]
  have hh9 : p_X6_why 20000 (nI 0) (nI 1) (nI 0) (nI 0) (nI 2) c tl ta tt tp = some (-nI 2, tl, tp) := l_why (by omega) (by omega) (qe_2 (ok1 i0 i1) (by unfold q_in; decide))
  have hh10 : p_X6_why 20000 (nI 0) (nI 1) (nI 24) (nI 0) (nI 0) c tl ta tt tp = some (-nI 2, tl, tp) := l_why (by omega) (by omega) (qe_1 (by omega) (by omega) er4)
  have hh11 : p_X6_leastGap 20000 (nI m) (nI 0) (nI 0) c tl ta tt tp = some (-nI 1, tl, tp) := l_least (by omega) (by omega) er1
  have hh12 : p_X6_leastGap 20000 (nI 0) (nI 1) (nI 24) c tl ta tt tp = some (-nI 2, tl, tp) := l_least (by omega) (by omega) er4
  have hh13 : p_X6_bestOffset 20000 (nI 0) (nI m) (nI 0) c tl ta tt tp = some (-nI 1, tl, tp) := l_best (by omega) (by omega) (qe_1 (by omega) (by omega) er2)
  have b585 : b_L_refusesAny_585 20000 (nI 1) (nI m) (nI 24) (nI 31) (nI 2) (nI 0) (nI 0) (nI 1) (nI 0) c (nI f) (nI k) X sf ss (nI 0) pp (nI 0) (nI 0) (nI 0) rn tl ta tt tp = some (nI 1, c, nI f, nI k, X, sf, ss, nI 0, pp, nI 0, nI 0, nI 0, rn, tl, ta, tt, tp) := by
    unfold b_L_refusesAny_585
    simp only [q_lit]
    rw [hh9, k_c3_some, if_pos rfl, hh10, k_c3_some, if_pos rfl, hh11, k_c3_some, if_pos rfl, hh12, k_c3_some, if_pos rfl, hh13, k_c3_some, if_pos rfl, if_neg hj, b653]
  have hh14 : p_X6_pair 20000 (nI 0) (nI 1) (nI 0) (nI 0) (nI 4) c tl ta tt tp = some (-nI 2, tl, tp) := l_pair (by omega) (by omega) (qe_2 (ok1 i0 i1) (by unfold q_in; decide))
  have hh15 : p_X6_pair 20000 (nI 0) (nI 0) (nI 0) (nI 0) (nI 0) c tl ta tt tp = some (-nI 2, tl, tp) := l_pair (by omega) (by omega) (qe_1 (by omega) (by omega) (er3 (by omega)))
  have hh16 : p_X6_why 20000 (nI 0) (nI m) (nI 0) (nI 0) (nI 9) c tl ta tt tp = some (-nI 1, tl, tp) := l_why (by omega) (by omega) (qe_1 (by omega) (by omega) er2)
  have b535 : b_L_refusesAny_535 20000 (nI 1) (nI m) (nI 24) (nI 31) (nI 4) (nI 0) (nI 0) (nI 1) (nI 0) c (nI f) (nI k) X sf ss (nI 0) pp (nI 0) (nI 0) (nI 0) rn tl ta tt tp = some (nI 1, c, nI f, nI k, X, sf, ss, nI 0, pp, nI 0, nI 0, nI 0, rn, tl, ta, tt, tp) := by
    unfold b_L_refusesAny_535
    simp only [q_lit]
    rw [hh14, k_c3_some, if_pos rfl, hh15, k_c3_some, if_pos rfl, hh16, k_c3_some, if_pos rfl, if_neg hj, b585]
  have hh17 : p_X6_count 20000 (nI 11) c (nI f) (nI k) (nI 0) = some (-nI 2) := l_count1 (by unfold q_in; decide)
  have hh18 : p_X6_pair 20000 (nI m) (nI 0) (nI 0) (nI 0) (nI 9) c tl ta tt tp = some (-nI 1, tl, tp) := l_pair (by omega) (by omega) (qe_1 (by omega) (by omega) er1)
  have hh19 : p_X6_pair 20000 (nI 0) (nI 1) (nI 24) (nI 0) (nI 0) c tl ta tt tp = some (-nI 2, tl, tp) := l_pair (by omega) (by omega) (qe_1 (by omega) (by omega) er4)
  have hh20 : p_X6_pair 20000 (nI 0) (nI 1) (nI 0) (nI 31) (nI 0) c tl ta tt tp = some (-nI 2, tl, tp) := l_pair (by omega) (by omega) (qe_1 (by omega) (by omega) er5)
  have b468 : b_L_refusesAny_468 20000 (nI 1) (nI m) (nI 24) (nI 31) (nI 11) c (nI f) (nI k) X sf ss (nI 0) pp (nI 0) (nI 0) (nI 0) rn tl ta tt tp = some (nI 1, c, nI f, nI k, X, sf, ss, nI 0, pp, nI 0, nI 0, nI 0, rn, tl, ta, tt, tp) := by
    unfold b_L_refusesAny_468
    simp only [q_lit]
    rw [hh17, k_c1_some, if_pos rfl, hh18, k_c3_some, if_pos rfl, hh19, k_c3_some, if_pos rfl, hh20, k_c3_some, if_pos rfl, if_neg hj, b535]
  have hh21 : p_X6_of 20000 (nI 0) (nI 7) c = some (-nI 2) := l_of2 h8 h0 (by omega) (by unfold q_in; decide)
  have hh22 : p_X6_tooth 20000 (nI m) (nI 0) c = some (-nI 1) := l_tooth1 h8 h0 hx2
  have hh23 : p_X6_tooth 20000 (nI 0) (nI 24) c = some (-nI 1) := l_tooth2 h8 h0 (by omega) t2 t3 hkt
  have b420 : b_L_refusesAny_420 20000 (nI 1) (nI m) (nI 24) (nI 31) (nI 7) (nI 0) c (nI f) (nI k) X sf ss (nI 0) pp (nI 0) (nI 0) (nI 0) rn tl ta tt tp = some (nI 1, c, nI f, nI k, X, sf, ss, nI 0, pp, nI 0, nI 0, nI 0, rn, tl, ta, tt, tp) := by
    unfold b_L_refusesAny_420
    simp only [q_lit]
    rw [hh21, k_c1_some, if_pos rfl, hh22, k_c1_some, if_pos rfl, if_neg hj, hh23, k_c1_some, if_pos rfl, if_neg hj, b468]
  have hh24 : p_X6_run 20000 (nI 0) (nI 1) (nI 0) (nI 0) (nI 1) (nI 100) c (nI f) (nI k) X tl ta tt tp = some (-nI 2, c, nI f, nI k, X, tl, ta, tt, tp) := l_run p2 (by omega) (by omega) (l_rc3 (ok1 i0 i1) (by unfold q_in; decide) (by unfold q_in; decide))
  have hh25 : p_X6_run 20000 (nI 1) (nI 1) (nI 0) (nI 30) (nI 1) (nI 1) c (nI f) (nI k) X tl ta tt tp = some (-nI 2, c, nI f, nI k, X, tl, ta, tt, tp) := l_run p2 (by omega) (by omega) (l_rc1 (by omega) (by omega) (er3 (by omega)))
  have hh26 : p_X6_of 20000 (nI m) (nI 9) c = some (-nI 1) := l_of1 h8 h0 hx2
  have b373 : b_L_refusesAny_373 20000 (nI 1) (nI m) (nI 24) (nI 31) (nI 100) (nI 1) (nI 0) (nI 0) (nI 1) (nI 0) c (nI f) (nI k) X sf ss (nI 0) pp (nI 0) (nI 0) (nI 0) rn tl ta tt tp = some (nI 1, c, nI f, nI k, X, sf, ss, nI 0, pp, nI 0, nI 0, nI 0, rn, tl, ta, tt, tp) := by
    unfold b_L_refusesAny_373
    simp only [q_lit]
    rw [hh24, k_c9_some, if_pos rfl, hh25, k_c9_some, if_pos rfl, hh26, k_c1_some, if_pos rfl, if_neg hj, b420]
  have hh27 : p_X6_card 20000 (nI 1) (nI 31) c (nI f) (nI k) X = some (-nI 2, c, nI f, nI k, X) := l_card p2 (by omega) (by omega) (l_card2 (by unfold q_in; decide) (by unfold q_in; decide))
  have hh28 : p_X6_carryOut 20000 c (nI f) (nI k) X (nI 0) pp ra rk rt rn tl ta tt tp = some (-nI 3, c, nI f, nI k, X, nI 0, nI 0, nI 0, nI 0, rn, tl, ta, tt, tp) := l_carry (by omega)
  have hh29 : p_X6_run 20000 (nI m) (nI 0) (nI 24) (nI 0) (nI 1) (nI 1) c (nI f) (nI k) X tl ta tt tp = some (-nI 1, c, nI f, nI k, X, tl, ta, tt, tp) := l_run p2 (by omega) (by omega) (l_rc1 (by omega) (by omega) er1)
  have hh30 : p_X6_run 20000 (nI 0) (nI m) (nI 24) (nI 0) (nI 1) (nI 1) c (nI f) (nI k) X tl ta tt tp = some (-nI 1, c, nI f, nI k, X, tl, ta, tt, tp) := l_run p2 (by omega) (by omega) (l_rc1 (by omega) (by omega) er2)
  have hh31 : p_X6_run 20000 (nI 0) (nI 1) (nI 24) (nI 0) (nI 1) (nI 1) c (nI f) (nI k) X tl ta tt tp = some (-nI 2, c, nI f, nI k, X, tl, ta, tt, tp) := l_run p2 (by omega) (by omega) (l_rc1 (by omega) (by omega) er4)
  have hh32 : p_X6_run 20000 (nI 0) (nI 1) (nI 0) (nI 31) (nI 1) (nI 1) c (nI f) (nI k) X tl ta tt tp = some (-nI 2, c, nI f, nI k, X, tl, ta, tt, tp) := l_run p2 (by omega) (by omega) (l_rc1 (by omega) (by omega) er5)
  have hh33 : p_X6_run 20000 (nI 0) (nI 1) (nI 0) (nI 0) (nI 100) (nI 1) c (nI f) (nI k) X tl ta tt tp = some (-nI 2, c, nI f, nI k, X, tl, ta, tt, tp) := l_run p2 (by omega) (by omega) (l_rc2 (ok1 i0 i1) (by unfold q_in; decide))
  have b253 : b_L_refusesAny_253 20000 (nI 1) (nI m) (nI 24) (nI 31) (nI 31) (nI 1) c (nI f) (nI k) X sf ss (nI 0) pp ra rk rt rn tl ta tt tp = some (nI 1, c, nI f, nI k, X, sf, ss, nI 0, pp, nI 0, nI 0, nI 0, rn, tl, ta, tt, tp) := by
    unfold b_L_refusesAny_253
    simp only [q_lit]
    rw [hh27, k_c5_some, if_pos rfl, hh28, k_c14_some, if_pos rfl, hh29, k_c9_some, if_pos rfl, hh30, k_c9_some, if_pos rfl, hh31, k_c9_some, if_pos rfl, hh32, k_c9_some, if_pos rfl, if_neg hj, hh33, k_c9_some, if_pos rfl, if_neg hj, b373]
  have hh34 : p_X6_file 20000 (nI 0) (nI 0) (nI 10) c (nI f) (nI k) X = some (-nI 2, c, nI f, nI k, X) := l_file p2 (by omega) (by omega) (l_file3 h8 h0 (by omega) t2 t3 (by omega) (by unfold q_in; decide))
  have hh35 : p_X6_melt 20000 (nI m) c (nI f) (nI k) X = some (-nI 1, c, nI f, nI k, X) := l_melt p2 (by omega) (by omega) (l_melt1 h8 h0 hx2)
  have hh36 : p_X6_card 20000 (nI 31) (nI 0) c (nI f) (nI k) X = some (-nI 2, c, nI f, nI k, X) := l_card p2 (by omega) (by omega) (l_card1 (by unfold q_in; decide))
  have b204 : b_L_refusesAny_204 20000 (nI 1) (nI m) (nI 24) (nI 31) (nI 10) (nI 0) (nI 0) c (nI f) (nI k) X sf ss (nI 0) pp ra rk rt rn tl ta tt tp = some (nI 1, c, nI f, nI k, X, sf, ss, nI 0, pp, nI 0, nI 0, nI 0, rn, tl, ta, tt, tp) := by
    unfold b_L_refusesAny_204
    simp only [q_lit]
    rw [hh34, k_c5_some, if_pos rfl, hh35, k_c5_some, if_pos rfl, if_neg hj, hh36, k_c5_some, if_pos rfl, if_neg hj, b253]
  have hh37 : p_X6_roller 20000 (nI 2) (nI 10) c (nI f) (nI k) X = some (-nI 2, c, nI f, nI k, X) := l_roller p2 (by omega) (by omega) (l_rol2 (by unfold q_in; decide) (by unfold q_in; decide))
  have hh38 : p_X6_file 20000 (nI m) (nI 0) (nI 10) c (nI f) (nI k) X = some (-nI 1, c, nI f, nI k, X) := l_file p2 (by omega) (by omega) (l_file1 h8 h0 hx2)
  have hh39 : p_X6_file 20000 (nI 0) (nI 24) (nI 10) c (nI f) (nI k) X = some (-nI 1, c, nI f, nI k, X) := l_file p2 (by omega) (by omega) (l_file2 h8 h0 (by omega) t2 t3 hkt)
  have b149 : b_L_refusesAny_149 20000 (nI 1) (nI m) (nI 24) (nI 31) (nI 10) (nI 2) c (nI f) (nI k) X sf ss (nI 0) pp ra rk rt rn tl ta tt tp = some (nI 1, c, nI f, nI k, X, sf, ss, nI 0, pp, nI 0, nI 0, nI 0, rn, tl, ta, tt, tp) := by
    unfold b_L_refusesAny_149
    simp only [q_lit]
    rw [hh37, k_c5_some, if_pos rfl, hh38, k_c5_some, if_pos rfl, if_neg hj, hh39, k_c5_some, if_pos rfl, if_neg hj, b204]
  have hh40 : p_X6_set 20000 (nI 2) (nI 100) c (nI f) (nI k) X = some (-nI 2, c, nI f, nI k, X) := l_set p2 (by omega) (by omega) (l_set3 (by unfold q_in; decide))
  have hh41 : p_X6_roller 20000 (nI 25) (nI 0) c (nI f) (nI k) X = some (-nI 2, c, nI f, nI k, X) := l_roller p2 (by omega) (by omega) (l_rol1 (by unfold q_in; decide))
  have b108 : b_L_refusesAny_108 20000 (nI 1) (nI m) (nI 24) (nI 31) (nI 100) (nI 2) c (nI f) (nI k) X sf ss (nI 0) pp ra rk rt rn tl ta tt tp = some (nI 1, c, nI f, nI k, X, sf, ss, nI 0, pp, nI 0, nI 0, nI 0, rn, tl, ta, tt, tp) := by
    unfold b_L_refusesAny_108
    simp only [q_lit]
    rw [hh40, k_c5_some, if_pos rfl, if_neg hj, hh41, k_c5_some, if_pos rfl, if_neg hj, b149]
  have hh42 : p_X6_set 20000 (nI 0) (nI 31) c (nI f) (nI k) X = some (-nI 2, c, nI f, nI k, X) := l_set p2 (by omega) (by omega) (l_set2 (by omega) (by unfold q_in; decide))
  have hh43 : p_X6_set 20000 (nI 1) (nI 31) c (nI f) (nI k) X = some (-nI 2, c, nI f, nI k, X) := l_set p2 (by omega) (by omega) (l_set2 (by omega) (by unfold q_in; decide))
  have b68 : b_L_refusesAny_68 20000 (nI 1) (nI m) (nI 24) (nI 31) (nI 31) (nI 0) c (nI f) (nI k) X sf ss (nI 0) pp ra rk rt rn tl ta tt tp = some (nI 1, c, nI f, nI k, X, sf, ss, nI 0, pp, nI 0, nI 0, nI 0, rn, tl, ta, tt, tp) := by
    unfold b_L_refusesAny_68
    simp only [q_lit]
    rw [hh42, k_c5_some, if_pos rfl, if_neg hj, hh43, k_c5_some, if_pos rfl, if_neg hj, b108]
  have hh44 : p_X6_set 20000 (nI 3) (nI 1) c (nI f) (nI k) hs = some (-nI 2, c, nI f, nI k, X) := l_set p1 (by omega) (by omega) (l_set1 (by unfold q_in; decide))
  have b35 : b_L_refusesAny_35 20000 (nI 1) (nI m) (nI 24) (nI 31) c (nI f) (nI k) hs sf ss (nI 0) pp ra rk rt rn tl ta tt tp = some (nI 1, c, nI f, nI k, X, sf, ss, nI 0, pp, nI 0, nI 0, nI 0, rn, tl, ta, tt, tp) := by
    unfold b_L_refusesAny_35
    simp only [q_lit]
    rw [if_neg hj, hh44, k_c5_some, if_pos rfl, if_neg hj, b68]
  unfold p_L_refusesAny
  simp only [q_lit]
  rw [if_neg hj, l_count0 (by omega), k_c1_some, h0, if_neg hj, if_neg hj, b35]
