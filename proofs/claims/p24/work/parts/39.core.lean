-- what the orders do to the two programs' states
theorem SR_at {c w c' w' : Nat → Int32} {m r : Nat} (h : SR c w) (h0 : c 0 = nI m) (hm8 : m ≤ 8) (hrm : r < m) (hc : ∀ i, (i < 9 + 27 * r ∨ 36 + 27 * r ≤ i) → c' i = c i) (hw : ∀ i, (i < 9 + 27 * r ∨ 36 + 27 * r ≤ i) → w' i = w i) (hr : SRr c' w' r) : SR c' w' := by
  obtain ⟨⟨m', h1, h2, h3, h4⟩, th, st, sl, pu, we, hs⟩ := h
  have e : m' = m := (nI_eq (by omega) (by omega)).mp (h2.symm.trans h0)
  subst e
  refine ⟨⟨m', h1, by rw [hc _ (by omega)]; exact h2, by rw [hw _ (by omega)]; exact h3, fun r' hr' => ?_⟩, th, st, sl, pu, we, ?_⟩
  · by_cases hrr : r' = r
    · rw [hrr]; exact hr
    · obtain ⟨t, g1, g2, g3, g4, g5, g6, g7⟩ := h4 r' hr'
      refine ⟨t, g1, g2, ?_, ?_, ?_, ?_, fun k hk => ?_⟩
      · rw [hc _ (by omega)]; exact g3
      · rw [hw _ (by omega)]; exact g4
      · rw [hc _ (by omega), hw _ (by omega)]; exact g5
      · rw [hc _ (by omega), hw _ (by omega)]; exact g6
      · rw [hc _ (by omega), hw _ (by omega)]; exact g7 k hk
  · unfold SRs
    rw [hc 1 (by omega), hc 2 (by omega), hc 3 (by omega), hc 4 (by omega), hc 5 (by omega), hc 6 (by omega), hc 7 (by omega), hc 8 (by omega), hw 0 (by omega), hw 1 (by omega), hw 2 (by omega), hw 4 (by omega), hw 5 (by omega), hw 6 (by omega), hw 7 (by omega), hw 8 (by omega)]
    exact hs
theorem SRm_keep {c w c' w' : Nat → Int32} {m : Nat} (h : SRm c w m) (h0 : c' 0 = c 0) (h3 : w' 3 = w 3) (hc : ∀ i, 9 ≤ i → c' i = c i) (hw : ∀ i, 9 ≤ i → w' i = w i) : SRm c' w' m := by
  obtain ⟨g1, g2, g3, g4⟩ := h
  refine ⟨g1, by rw [h0]; exact g2, by rw [h3]; exact g3, fun r hr => ?_⟩
  obtain ⟨t, k1, k2, k3, k4, k5, k6, k7⟩ := g4 r hr
  refine ⟨t, k1, k2, ?_, ?_, ?_, ?_, fun k hk => ?_⟩
  · rw [hc _ (by omega)]; exact k3
  · rw [hw _ (by omega)]; exact k4
  · rw [hc _ (by omega), hw _ (by omega)]; exact k5
  · rw [hc _ (by omega), hw _ (by omega)]; exact k6
  · rw [hc _ (by omega), hw _ (by omega)]; exact k7 k hk
-- set
theorem o_set {N : Nat} {c w : Nat → Int32} (hR : SR c w) (x1 x2 : Int32) :
    (p_X3_changeSetting N x1 x2 c = some (-nI 2, c) ∧ p_X7_isSetting N x1 x2 = some (nI 0)) ∨
    (∃ k v : Nat, ∃ c' : Nat → Int32, k < 3 ∧ x1 = nI k ∧ v ≤ 99 ∧ w k = nI v ∧ p_X3_changeSetting N x1 x2 c = some (nI v, c') ∧ p_X7_isSetting N x1 x2 = some (nI 1) ∧ SR c' (upd w k x2)) := by
  obtain ⟨⟨m, hm⟩, th, st, sl, pu, we, s1, s2, s3, ⟨d1, d2, d3⟩, ⟨p1, p2, p3⟩, ⟨w1, w2, w3, w4⟩⟩ := hR
  unfold p_X3_changeSetting p_X7_isSetting
  rcases q_dec x1 0 2 with h1 | h1
  rotate_left
  · left
    have k0 := q_notin (n := 2) (k := 0) (by omega) h1 (by omega)
    have k1 := q_notin (n := 2) (k := 1) (by omega) h1 (by omega)
    have k2 := q_notin (n := 2) (k := 2) (by omega) h1 (by omega)
    refine ⟨?_, ?_⟩
    · rw [s_outside_f (show ¬ q_in x1 (0 : Int32).toInt (2 : Int32).toInt from h1)]; simp (disch := omega) only [q_lit, nI_add, pk_mul, k_let_eq, k_c1_some, k_c2_some, k_c3_some, k_c4_some, k_c5_some, k_c6_some, k_c7_some, k_c8_some, k_c9_some, k_c10_some, k_c11_some, k_c12_some, k_c13_some, k_c14_some, k_c15_some, k_c16_some, k_c17_some, k_ld_nI, k_st_nI, k_nz_nI, k_bit0, k_bit1, pk_rem, pk_sub, q_nn, q_np, q_pn, q_lnp, q_lpn, q_enp, q_epn, nI_leI, nI_ltI, nI_eq, if_pos, if_neg, ↓reduceIte]
    · simp (disch := omega) only [q_lit, nI_add, pk_mul, k_let_eq, k_c1_some, k_c2_some, k_c3_some, k_c4_some, k_c5_some, k_c6_some, k_c7_some, k_c8_some, k_c9_some, k_c10_some, k_c11_some, k_c12_some, k_c13_some, k_c14_some, k_c15_some, k_c16_some, k_c17_some, k_ld_nI, k_st_nI, k_nz_nI, k_bit0, k_bit1, pk_rem, pk_sub, q_nn, q_np, q_pn, q_lnp, q_lpn, q_enp, q_epn, nI_leI, nI_ltI, nI_eq, if_pos, if_neg, ↓reduceIte, k0, k1, k2]
  rw [s_outside_t (show q_in x1 (0 : Int32).toInt (2 : Int32).toInt from h1)]
  obtain ⟨j, -, hj, rfl⟩ := q_in_nat (a := 0) (b := 2) (by omega) h1
  by_cases hj2 : j = 2
  · subst hj2
    rcases q_dec x2 1 99 with h2 | h2
    rotate_left
    · left
      rw [s_outside_f (show ¬ q_in x2 (1 : Int32).toInt (99 : Int32).toInt from h2), s_in_f (show ¬ q_in x2 (1 : Int32).toInt (99 : Int32).toInt from h2)]
      refine ⟨?_, ?_⟩ <;> simp (disch := omega) only [q_lit, nI_add, pk_mul, k_let_eq, k_c1_some, k_c2_some, k_c3_some, k_c4_some, k_c5_some, k_c6_some, k_c7_some, k_c8_some, k_c9_some, k_c10_some, k_c11_some, k_c12_some, k_c13_some, k_c14_some, k_c15_some, k_c16_some, k_c17_some, k_ld_nI, k_st_nI, k_nz_nI, k_bit0, k_bit1, pk_rem, pk_sub, q_nn, q_np, q_pn, q_lnp, q_lpn, q_enp, q_epn, nI_leI, nI_ltI, nI_eq, if_pos, if_neg, ↓reduceIte]
    right
    rw [s_outside_t (show q_in x2 (1 : Int32).toInt (99 : Int32).toInt from h2), s_in_t (show q_in x2 (1 : Int32).toInt (99 : Int32).toInt from h2)]
    obtain ⟨v, v1, v2, rfl⟩ := q_in_nat (a := 1) (b := 99) (by omega) h2
    refine ⟨2, we, upd c 8 (nI v), by omega, rfl, w2, w4, ?_, ?_, ⟨m, SRm_keep hm (q_un (by omega)) (q_un (by omega)) (fun i hi => q_un (by omega)) (fun i hi => q_un (by omega))⟩, th, st, sl, pu, v, ?_⟩
    · simp (disch := omega) only [q_lit, nI_add, pk_mul, k_let_eq, k_c1_some, k_c2_some, k_c3_some, k_c4_some, k_c5_some, k_c6_some, k_c7_some, k_c8_some, k_c9_some, k_c10_some, k_c11_some, k_c12_some, k_c13_some, k_c14_some, k_c15_some, k_c16_some, k_c17_some, k_ld_nI, k_st_nI, k_nz_nI, k_bit0, k_bit1, pk_rem, pk_sub, q_nn, q_np, q_pn, q_lnp, q_lpn, q_enp, q_epn, nI_leI, nI_ltI, nI_eq, if_pos, if_neg, ↓reduceIte, s_setting, s_change, w3]
    · simp (disch := omega) only [q_lit, nI_add, pk_mul, k_let_eq, k_c1_some, k_c2_some, k_c3_some, k_c4_some, k_c5_some, k_c6_some, k_c7_some, k_c8_some, k_c9_some, k_c10_some, k_c11_some, k_c12_some, k_c13_some, k_c14_some, k_c15_some, k_c16_some, k_c17_some, k_ld_nI, k_st_nI, k_nz_nI, k_bit0, k_bit1, pk_rem, pk_sub, q_nn, q_np, q_pn, q_lnp, q_lpn, q_enp, q_epn, nI_leI, nI_ltI, nI_eq, if_pos, if_neg, ↓reduceIte]
    · unfold SRs
      simp (disch := omega) only [q_un, q_us]
      exact ⟨s1, s2, s3, ⟨d1, d2, d3⟩, ⟨p1, p2, p3⟩, v1, v2, trivial, trivial⟩
  · have hne : ¬ nI j = nI 2 := by rw [nI_eq (by omega) (by omega)]; exact hj2
    rcases q_dec x2 0 30 with h2 | h2
    rotate_left
    · left
      rw [s_outside_f (show ¬ q_in x2 (0 : Int32).toInt (30 : Int32).toInt from h2), s_in_f (show ¬ q_in x2 (0 : Int32).toInt (30 : Int32).toInt from h2)]
      rcases (show j = 0 ∨ j = 1 by omega) with rfl | rfl <;> refine ⟨?_, ?_⟩ <;> simp (disch := omega) only [q_lit, nI_add, pk_mul, k_let_eq, k_c1_some, k_c2_some, k_c3_some, k_c4_some, k_c5_some, k_c6_some, k_c7_some, k_c8_some, k_c9_some, k_c10_some, k_c11_some, k_c12_some, k_c13_some, k_c14_some, k_c15_some, k_c16_some, k_c17_some, k_ld_nI, k_st_nI, k_nz_nI, k_bit0, k_bit1, pk_rem, pk_sub, q_nn, q_np, q_pn, q_lnp, q_lpn, q_enp, q_epn, nI_leI, nI_ltI, nI_eq, if_pos, if_neg, ↓reduceIte]
    right
    rw [s_outside_t (show q_in x2 (0 : Int32).toInt (30 : Int32).toInt from h2), s_in_t (show q_in x2 (0 : Int32).toInt (30 : Int32).toInt from h2)]
    obtain ⟨v, v1, v2, rfl⟩ := q_in_nat (a := 0) (b := 30) (by omega) h2
    rcases (show j = 0 ∨ j = 1 by omega) with rfl | rfl
    · refine ⟨0, sl, upd c 6 (nI v), by omega, rfl, by omega, d3, ?_, ?_, ⟨m, SRm_keep hm (q_un (by omega)) (q_un (by omega)) (fun i hi => q_un (by omega)) (fun i hi => q_un (by omega))⟩, th, st, v, pu, we, ?_⟩
      · simp (disch := omega) only [q_lit, nI_add, pk_mul, k_let_eq, k_c1_some, k_c2_some, k_c3_some, k_c4_some, k_c5_some, k_c6_some, k_c7_some, k_c8_some, k_c9_some, k_c10_some, k_c11_some, k_c12_some, k_c13_some, k_c14_some, k_c15_some, k_c16_some, k_c17_some, k_ld_nI, k_st_nI, k_nz_nI, k_bit0, k_bit1, pk_rem, pk_sub, q_nn, q_np, q_pn, q_lnp, q_lpn, q_enp, q_epn, nI_leI, nI_ltI, nI_eq, if_pos, if_neg, ↓reduceIte, s_setting, s_change, d2]
      · simp (disch := omega) only [q_lit, nI_add, pk_mul, k_let_eq, k_c1_some, k_c2_some, k_c3_some, k_c4_some, k_c5_some, k_c6_some, k_c7_some, k_c8_some, k_c9_some, k_c10_some, k_c11_some, k_c12_some, k_c13_some, k_c14_some, k_c15_some, k_c16_some, k_c17_some, k_ld_nI, k_st_nI, k_nz_nI, k_bit0, k_bit1, pk_rem, pk_sub, q_nn, q_np, q_pn, q_lnp, q_lpn, q_enp, q_epn, nI_leI, nI_ltI, nI_eq, if_pos, if_neg, ↓reduceIte]
      · unfold SRs
        simp (disch := omega) only [q_un, q_us]
        exact ⟨s1, s2, s3, ⟨v2, trivial, trivial⟩, ⟨p1, p2, p3⟩, ⟨w1, w2, w3, w4⟩⟩
    · refine ⟨1, pu, upd c 7 (nI v), by omega, rfl, by omega, p3, ?_, ?_, ⟨m, SRm_keep hm (q_un (by omega)) (q_un (by omega)) (fun i hi => q_un (by omega)) (fun i hi => q_un (by omega))⟩, th, st, sl, v, we, ?_⟩
      · simp (disch := omega) only [q_lit, nI_add, pk_mul, k_let_eq, k_c1_some, k_c2_some, k_c3_some, k_c4_some, k_c5_some, k_c6_some, k_c7_some, k_c8_some, k_c9_some, k_c10_some, k_c11_some, k_c12_some, k_c13_some, k_c14_some, k_c15_some, k_c16_some, k_c17_some, k_ld_nI, k_st_nI, k_nz_nI, k_bit0, k_bit1, pk_rem, pk_sub, q_nn, q_np, q_pn, q_lnp, q_lpn, q_enp, q_epn, nI_leI, nI_ltI, nI_eq, if_pos, if_neg, ↓reduceIte, s_setting, s_change, p2]
      · simp (disch := omega) only [q_lit, nI_add, pk_mul, k_let_eq, k_c1_some, k_c2_some, k_c3_some, k_c4_some, k_c5_some, k_c6_some, k_c7_some, k_c8_some, k_c9_some, k_c10_some, k_c11_some, k_c12_some, k_c13_some, k_c14_some, k_c15_some, k_c16_some, k_c17_some, k_ld_nI, k_st_nI, k_nz_nI, k_bit0, k_bit1, pk_rem, pk_sub, q_nn, q_np, q_pn, q_lnp, q_lpn, q_enp, q_epn, nI_leI, nI_ltI, nI_eq, if_pos, if_neg, ↓reduceIte]
      · unfold SRs
        simp (disch := omega) only [q_un, q_us]
        exact ⟨s1, s2, s3, ⟨d1, d2, d3⟩, ⟨v2, trivial, trivial⟩, ⟨w1, w2, w3, w4⟩⟩
-- card
theorem o_card {N : Nat} {c w : Nat → Int32} (hR : SR c w) (x1 x2 : Int32) :
    (p_X3_changeCard N x1 x2 c = some (-nI 2, c) ∧ (¬ q_in x1 1 30 ∨ ¬ q_in x2 0 30)) ∨
    (∃ v : Nat, v ≤ 30 ∧ q_in x1 1 30 ∧ q_in x2 0 30 ∧ w 4 = nI v ∧ p_X3_changeCard N x1 x2 c = some (nI v, upd (upd c 1 x1) 2 x2) ∧ SR (upd (upd c 1 x1) 2 x2) (upd (upd w 4 x1) 5 x2)) := by
  obtain ⟨⟨m, hm⟩, th, st, sl, pu, we, ⟨t1, t2, t3, t4⟩, ⟨u1, u2, u3⟩, s3, s4, s5, s6⟩ := hR
  unfold p_X3_changeCard
  rcases q_dec x1 1 30 with h1 | h1
  rotate_left
  · left
    rw [s_outside_f (show ¬ q_in x1 (1 : Int32).toInt (30 : Int32).toInt from h1)]
    refine ⟨?_, Or.inl h1⟩
    simp (disch := omega) only [q_lit, nI_add, pk_mul, k_let_eq, k_c1_some, k_c2_some, k_c3_some, k_c4_some, k_c5_some, k_c6_some, k_c7_some, k_c8_some, k_c9_some, k_c10_some, k_c11_some, k_c12_some, k_c13_some, k_c14_some, k_c15_some, k_c16_some, k_c17_some, k_ld_nI, k_st_nI, k_nz_nI, k_bit0, k_bit1, pk_rem, pk_sub, q_nn, q_np, q_pn, q_lnp, q_lpn, q_enp, q_epn, nI_leI, nI_ltI, nI_eq, if_pos, if_neg, ↓reduceIte]
  rw [s_outside_t (show q_in x1 (1 : Int32).toInt (30 : Int32).toInt from h1)]
  rcases q_dec x2 0 30 with h2 | h2
  rotate_left
  · left
    rw [s_outside_f (show ¬ q_in x2 (0 : Int32).toInt (30 : Int32).toInt from h2)]
    refine ⟨?_, Or.inr h2⟩
    simp (disch := omega) only [q_lit, nI_add, pk_mul, k_let_eq, k_c1_some, k_c2_some, k_c3_some, k_c4_some, k_c5_some, k_c6_some, k_c7_some, k_c8_some, k_c9_some, k_c10_some, k_c11_some, k_c12_some, k_c13_some, k_c14_some, k_c15_some, k_c16_some, k_c17_some, k_ld_nI, k_st_nI, k_nz_nI, k_bit0, k_bit1, pk_rem, pk_sub, q_nn, q_np, q_pn, q_lnp, q_lpn, q_enp, q_epn, nI_leI, nI_ltI, nI_eq, if_pos, if_neg, ↓reduceIte]
  right
  rw [s_outside_t (show q_in x2 (0 : Int32).toInt (30 : Int32).toInt from h2)]
  refine ⟨th, t2, h1, h2, t4, ?_, ?_⟩
  · simp (disch := omega) only [q_lit, nI_add, pk_mul, k_let_eq, k_c1_some, k_c2_some, k_c3_some, k_c4_some, k_c5_some, k_c6_some, k_c7_some, k_c8_some, k_c9_some, k_c10_some, k_c11_some, k_c12_some, k_c13_some, k_c14_some, k_c15_some, k_c16_some, k_c17_some, k_ld_nI, k_st_nI, k_nz_nI, k_bit0, k_bit1, pk_rem, pk_sub, q_nn, q_np, q_pn, q_lnp, q_lpn, q_enp, q_epn, nI_leI, nI_ltI, nI_eq, if_pos, if_neg, ↓reduceIte, s_cell, s_change, t3]
  · obtain ⟨v, v1, v2, rfl⟩ := q_in_nat (a := 1) (b := 30) (by omega) h1
    obtain ⟨v', -, v2', rfl⟩ := q_in_nat (a := 0) (b := 30) (by omega) h2
    refine ⟨⟨m, SRm_keep hm (by simp (disch := omega) only [q_un]) (by simp (disch := omega) only [q_un]) (fun i hi => by rw [q_un (by omega), q_un (by omega)]) (fun i hi => by rw [q_un (by omega), q_un (by omega)])⟩, v, v', sl, pu, we, ?_⟩
    unfold SRs
    simp (disch := omega) only [q_un, q_us]
    exact ⟨⟨v1, v2, trivial, trivial⟩, ⟨v2', trivial, trivial⟩, s3, s4, s5, s6⟩
-- file
theorem o_file {N : Nat} {c w : Nat → Int32} (us up ue ut um : Int32) (hR : SR c w) (x1 x2 x3 : Int32) :
    (∃ e : Nat, 1 ≤ e ∧ e ≤ 2 ∧ p_X3_fileTooth N x1 x2 x3 c = some (-nI e, c) ∧ p_X7_fileError N x1 x2 x3 us up ue ut um w = some (-nI e)) ∨
    (∃ r k v : Nat, ∃ c' w' : Nat → Int32, v ≤ 18 ∧ x1 = nI r ∧ x2 = nI k ∧ p_X3_fileTooth N x1 x2 x3 c = some (nI v, c') ∧ p_X7_fileError N x1 x2 x3 us up ue ut um w = some (nI 0) ∧ (∀ us' : Int32, p_X7_files N x1 x2 x3 us' up ue ut um w = some (nI v, w')) ∧ SR c' w' ∧ c' = upd c (12 + 27 * r + k) x3 ∧ r < 8) := by
  obtain ⟨⟨m, hm⟩, th, st, sl, pu, we, hs⟩ := id hR
  obtain ⟨h8, h0, h3, hr⟩ := id hm
  unfold p_X3_fileTooth p_X7_fileError
  rcases q_ro_dec x1 m with ⟨r, hrm, rfl⟩ | h1
  rotate_left
  · left
    rw [s_hasT_f1 h8 h0 h1, s_isT_f1 us up ue ut um h8 h3 h1]
    refine ⟨1, by omega, by omega, ?_, ?_⟩ <;> simp (disch := omega) only [q_lit, nI_add, pk_mul, k_let_eq, k_c1_some, k_c2_some, k_c3_some, k_c4_some, k_c5_some, k_c6_some, k_c7_some, k_c8_some, k_c9_some, k_c10_some, k_c11_some, k_c12_some, k_c13_some, k_c14_some, k_c15_some, k_c16_some, k_c17_some, k_ld_nI, k_st_nI, k_nz_nI, k_bit0, k_bit1, pk_rem, pk_sub, q_nn, q_np, q_pn, q_lnp, q_lpn, q_enp, q_epn, nI_leI, nI_ltI, nI_eq, if_pos, if_neg, ↓reduceIte]
  obtain ⟨t, t1, t2, t3, t4, t5, t6, t7⟩ := hr r hrm
  rcases q_ro_dec x2 t with ⟨k, hk, rfl⟩ | h2
  rotate_left
  · left
    rw [s_hasT_f2 h8 h0 hrm t2 t3 h2, s_isT_f2 us up ue ut um h8 h3 hrm t2 t4 h2]
    refine ⟨1, by omega, by omega, ?_, ?_⟩ <;> simp (disch := omega) only [q_lit, nI_add, pk_mul, k_let_eq, k_c1_some, k_c2_some, k_c3_some, k_c4_some, k_c5_some, k_c6_some, k_c7_some, k_c8_some, k_c9_some, k_c10_some, k_c11_some, k_c12_some, k_c13_some, k_c14_some, k_c15_some, k_c16_some, k_c17_some, k_ld_nI, k_st_nI, k_nz_nI, k_bit0, k_bit1, pk_rem, pk_sub, q_nn, q_np, q_pn, q_lnp, q_lpn, q_enp, q_epn, nI_leI, nI_ltI, nI_eq, if_pos, if_neg, ↓reduceIte]
  rw [s_hasT_t h8 h0 hrm t2 t3 hk, s_isT_t us up ue ut um h8 h3 hrm t2 t4 hk]
  unfold p_X7_isHeight
  rcases q_dec x3 (-9) 9 with h4 | h4
  rotate_left
  · left
    rw [s_outside_f (show ¬ q_in x3 (-9 : Int32).toInt (9 : Int32).toInt from h4), s_in_f (show ¬ q_in x3 (-9 : Int32).toInt (9 : Int32).toInt from h4)]
    refine ⟨2, by omega, by omega, ?_, ?_⟩ <;> simp (disch := omega) only [q_lit, nI_add, pk_mul, k_let_eq, k_c1_some, k_c2_some, k_c3_some, k_c4_some, k_c5_some, k_c6_some, k_c7_some, k_c8_some, k_c9_some, k_c10_some, k_c11_some, k_c12_some, k_c13_some, k_c14_some, k_c15_some, k_c16_some, k_c17_some, k_ld_nI, k_st_nI, k_nz_nI, k_bit0, k_bit1, pk_rem, pk_sub, q_nn, q_np, q_pn, q_lnp, q_lpn, q_enp, q_epn, nI_leI, nI_ltI, nI_eq, if_pos, if_neg, ↓reduceIte]
  right
  rw [s_outside_t (show q_in x3 (-9 : Int32).toInt (9 : Int32).toInt from h4), s_in_t (show q_in x3 (-9 : Int32).toInt (9 : Int32).toInt from h4)]
  have hh := t7 k hk
  have ev : ∃ v : Nat, v ≤ 18 ∧ w (12 + 27 * r + k) + nI 9 = nI v := by
    refine ⟨((w (12 + 27 * r + k)).toInt + 9).toNat, by omega, ?_⟩
    rw [← Int32.toInt_inj, q_add (by rw [nI_toInt (by omega)]; omega) (by rw [nI_toInt (by omega)]; omega), nI_toInt (by omega), nI_toInt (by omega)]
    omega
  obtain ⟨v, v1, v2⟩ := ev
  refine ⟨r, k, v, upd c (12 + 27 * r + k) x3, upd w (12 + 27 * r + k) x3, v1, rfl, rfl, ?_, ?_, fun us' => ?_, ?_, rfl, by omega⟩
  · simp (disch := omega) only [q_lit, nI_add, pk_mul, k_let_eq, k_c1_some, k_c2_some, k_c3_some, k_c4_some, k_c5_some, k_c6_some, k_c7_some, k_c8_some, k_c9_some, k_c10_some, k_c11_some, k_c12_some, k_c13_some, k_c14_some, k_c15_some, k_c16_some, k_c17_some, k_ld_nI, k_st_nI, k_nz_nI, k_bit0, k_bit1, pk_rem, pk_sub, q_nn, q_np, q_pn, q_lnp, q_lpn, q_enp, q_epn, nI_leI, nI_ltI, nI_eq, if_pos, if_neg, ↓reduceIte, s_height, s_shape, hh.1, v2]
  · simp (disch := omega) only [q_lit, nI_add, pk_mul, k_let_eq, k_c1_some, k_c2_some, k_c3_some, k_c4_some, k_c5_some, k_c6_some, k_c7_some, k_c8_some, k_c9_some, k_c10_some, k_c11_some, k_c12_some, k_c13_some, k_c14_some, k_c15_some, k_c16_some, k_c17_some, k_ld_nI, k_st_nI, k_nz_nI, k_bit0, k_bit1, pk_rem, pk_sub, q_nn, q_np, q_pn, q_lnp, q_lpn, q_enp, q_epn, nI_leI, nI_ltI, nI_eq, if_pos, if_neg, ↓reduceIte]
  · unfold p_X7_files
    simp only [q_lit, pk_mul, nI_add, k_let_eq]
    rw [k_ld_nI (by omega) (by omega), k_st_nI (by omega) (by omega), show 9 + 27 * r + 3 + k = 12 + 27 * r + k by omega, v2]
  · refine SR_at hR h0 h8 hrm (fun i hi => q_un (by omega)) (fun i hi => q_un (by omega)) ⟨t, t1, t2, ?_, ?_, ?_, ?_, fun k' hk' => ?_⟩
    · rw [q_un (by omega)]; exact t3
    · rw [q_un (by omega)]; exact t4
    · rw [q_un (by omega), q_un (by omega)]; exact t5
    · rw [q_un (by omega), q_un (by omega)]; exact t6
    · by_cases hkk : k' = k
      · subst hkk
        rw [q_us, q_us]
        exact ⟨rfl, h4⟩
      · rw [q_un (by omega), q_un (by omega)]
        exact t7 k' hk'
