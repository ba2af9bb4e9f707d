-- of, tooth, count
theorem e_tooth {N : Nat} {c w : Nat → Int32} (hR : SR c w) (x1 x2 : Int32) (us up ue ut um : Int32) : ∃ r, p_X6_tooth N x1 x2 c = some r ∧ p_X7_tooth N x1 x2 us up ue ut um w = some r := by
  obtain ⟨⟨m, h8, h0, h3, hr⟩, -⟩ := id hR
  unfold p_X6_tooth p_X7_tooth
  rcases q_ro_dec x1 m with ⟨r, hrm, rfl⟩ | h1
  rotate_left
  · refine ⟨-nI 1, ?_, ?_⟩
    · rw [s_hasT_f1 h8 h0 h1]; simp (disch := omega) only [q_lit, nI_add, pk_mul, k_let_eq, k_c1_some, k_c2_some, k_c3_some, k_c4_some, k_c5_some, k_c6_some, k_c7_some, k_c8_some, k_c9_some, k_c10_some, k_c11_some, k_c12_some, k_c13_some, k_c14_some, k_c15_some, k_c16_some, k_c17_some, k_ld_nI, k_st_nI, k_nz_nI, k_bit0, k_bit1, pk_rem, pk_sub, q_nn, q_np, q_pn, q_lnp, q_lpn, q_enp, q_epn, nI_leI, nI_ltI, nI_eq, if_pos, if_neg, ↓reduceIte]
    · rw [s_isT_f1 us up ue ut um h8 h3 h1]; simp (disch := omega) only [q_lit, nI_add, pk_mul, k_let_eq, k_c1_some, k_c2_some, k_c3_some, k_c4_some, k_c5_some, k_c6_some, k_c7_some, k_c8_some, k_c9_some, k_c10_some, k_c11_some, k_c12_some, k_c13_some, k_c14_some, k_c15_some, k_c16_some, k_c17_some, k_ld_nI, k_st_nI, k_nz_nI, k_bit0, k_bit1, pk_rem, pk_sub, q_nn, q_np, q_pn, q_lnp, q_lpn, q_enp, q_epn, nI_leI, nI_ltI, nI_eq, if_pos, if_neg, ↓reduceIte]
  obtain ⟨t, t1, t2, t3, t4, t5, t6, t7⟩ := hr r hrm
  rcases q_ro_dec x2 t with ⟨k, hk, rfl⟩ | h2
  rotate_left
  · refine ⟨-nI 1, ?_, ?_⟩
    · rw [s_hasT_f2 h8 h0 hrm t2 t3 h2]; simp (disch := omega) only [q_lit, nI_add, pk_mul, k_let_eq, k_c1_some, k_c2_some, k_c3_some, k_c4_some, k_c5_some, k_c6_some, k_c7_some, k_c8_some, k_c9_some, k_c10_some, k_c11_some, k_c12_some, k_c13_some, k_c14_some, k_c15_some, k_c16_some, k_c17_some, k_ld_nI, k_st_nI, k_nz_nI, k_bit0, k_bit1, pk_rem, pk_sub, q_nn, q_np, q_pn, q_lnp, q_lpn, q_enp, q_epn, nI_leI, nI_ltI, nI_eq, if_pos, if_neg, ↓reduceIte]
    · rw [s_isT_f2 us up ue ut um h8 h3 hrm t2 t4 h2]; simp (disch := omega) only [q_lit, nI_add, pk_mul, k_let_eq, k_c1_some, k_c2_some, k_c3_some, k_c4_some, k_c5_some, k_c6_some, k_c7_some, k_c8_some, k_c9_some, k_c10_some, k_c11_some, k_c12_some, k_c13_some, k_c14_some, k_c15_some, k_c16_some, k_c17_some, k_ld_nI, k_st_nI, k_nz_nI, k_bit0, k_bit1, pk_rem, pk_sub, q_nn, q_np, q_pn, q_lnp, q_lpn, q_enp, q_epn, nI_leI, nI_ltI, nI_eq, if_pos, if_neg, ↓reduceIte]
  refine ⟨w (12 + 27 * r + k) + nI 9, ?_, ?_⟩
  · rw [s_hasT_t h8 h0 hrm t2 t3 hk]; simp (disch := omega) only [q_lit, nI_add, pk_mul, k_let_eq, k_c1_some, k_c2_some, k_c3_some, k_c4_some, k_c5_some, k_c6_some, k_c7_some, k_c8_some, k_c9_some, k_c10_some, k_c11_some, k_c12_some, k_c13_some, k_c14_some, k_c15_some, k_c16_some, k_c17_some, k_ld_nI, k_st_nI, k_nz_nI, k_bit0, k_bit1, pk_rem, pk_sub, q_nn, q_np, q_pn, q_lnp, q_lpn, q_enp, q_epn, nI_leI, nI_ltI, nI_eq, if_pos, if_neg, ↓reduceIte, s_height, (t7 k hk).1]
  · rw [s_isT_t us up ue ut um h8 h3 hrm t2 t4 hk]; simp (disch := omega) only [q_lit, nI_add, pk_mul, k_let_eq, k_c1_some, k_c2_some, k_c3_some, k_c4_some, k_c5_some, k_c6_some, k_c7_some, k_c8_some, k_c9_some, k_c10_some, k_c11_some, k_c12_some, k_c13_some, k_c14_some, k_c15_some, k_c16_some, k_c17_some, k_ld_nI, k_st_nI, k_nz_nI, k_bit0, k_bit1, pk_rem, pk_sub, q_nn, q_np, q_pn, q_lnp, q_lpn, q_enp, q_epn, nI_leI, nI_ltI, nI_eq, if_pos, if_neg, ↓reduceIte, s_ofR]
    rw [show 9 + 27 * r + (3 + k) = 12 + 27 * r + k by omega]
theorem e_count {N : Nat} {c w hs uq : Nat → Int32} {hf hl us pl : Int32} (hR : SR c w) (hH : HR hs hf hl uq us) (x1 up ue ut um : Int32) (hp : pl = up) : ∃ r, p_X6_count N x1 c hf hl pl = some r ∧ p_X7_count N x1 us up ue ut um w = some r := by
  obtain ⟨⟨m, h8, h0, h3, hr⟩, th, st, sl, pu, we, ⟨-, -, t3, t4⟩, ⟨-, u2, u3⟩, ⟨v1, v2, v3⟩, ⟨-, d2, d3⟩, ⟨-, p2, p3⟩, -, -, w3, w4⟩ := hR
  obtain ⟨f, k, -, -, -, hl', hu', -⟩ := hH
  subst hp
  unfold p_X6_count p_X7_count b_X7_count_60
  rcases q_dec x1 0 10 with h1 | h1
  rotate_left
  · refine ⟨-nI 2, ?_, ?_⟩
    · rw [s_outside_f (show ¬ q_in x1 (0 : Int32).toInt (10 : Int32).toInt from h1)]; simp (disch := omega) only [q_lit, nI_add, pk_mul, k_let_eq, k_c1_some, k_c2_some, k_c3_some, k_c4_some, k_c5_some, k_c6_some, k_c7_some, k_c8_some, k_c9_some, k_c10_some, k_c11_some, k_c12_some, k_c13_some, k_c14_some, k_c15_some, k_c16_some, k_c17_some, k_ld_nI, k_st_nI, k_nz_nI, k_bit0, k_bit1, pk_rem, pk_sub, q_nn, q_np, q_pn, q_lnp, q_lpn, q_enp, q_epn, nI_leI, nI_ltI, nI_eq, if_pos, if_neg, ↓reduceIte]
    · have e := fun k hk => q_notin (n := 10) (k := k) (by omega) h1 hk
      simp (disch := omega) only [q_lit, nI_add, pk_mul, k_let_eq, k_c1_some, k_c2_some, k_c3_some, k_c4_some, k_c5_some, k_c6_some, k_c7_some, k_c8_some, k_c9_some, k_c10_some, k_c11_some, k_c12_some, k_c13_some, k_c14_some, k_c15_some, k_c16_some, k_c17_some, k_ld_nI, k_st_nI, k_nz_nI, k_bit0, k_bit1, pk_rem, pk_sub, q_nn, q_np, q_pn, q_lnp, q_lpn, q_enp, q_epn, nI_leI, nI_ltI, nI_eq, if_pos, if_neg, ↓reduceIte, e 0 (by omega), e 1 (by omega), e 2 (by omega), e 3 (by omega), e 4 (by omega), e 5 (by omega), e 6 (by omega), e 7 (by omega), e 8 (by omega), e 9 (by omega), e 10 (by omega)]
  rw [s_outside_t (show q_in x1 (0 : Int32).toInt (10 : Int32).toInt from h1)]
  obtain ⟨j, -, hj, rfl⟩ := q_in_nat (a := 0) (b := 10) (by omega) h1
  rcases (show j = 0 ∨ j = 1 ∨ j = 2 ∨ j = 3 ∨ j = 4 ∨ j = 5 ∨ j = 6 ∨ j = 7 ∨ j = 8 ∨ j = 9 ∨ j = 10 by omega) with rfl | rfl | rfl | rfl | rfl | rfl | rfl | rfl | rfl | rfl | rfl
  · refine ⟨nI m, ?_, ?_⟩ <;> simp (disch := omega) only [q_lit, nI_add, pk_mul, k_let_eq, k_c1_some, k_c2_some, k_c3_some, k_c4_some, k_c5_some, k_c6_some, k_c7_some, k_c8_some, k_c9_some, k_c10_some, k_c11_some, k_c12_some, k_c13_some, k_c14_some, k_c15_some, k_c16_some, k_c17_some, k_ld_nI, k_st_nI, k_nz_nI, k_bit0, k_bit1, pk_rem, pk_sub, q_nn, q_np, q_pn, q_lnp, q_lpn, q_enp, q_epn, nI_leI, nI_ltI, nI_eq, if_pos, if_neg, ↓reduceIte, s_cell, h0, h3]
  · refine ⟨nI th, ?_, ?_⟩ <;> simp (disch := omega) only [q_lit, nI_add, pk_mul, k_let_eq, k_c1_some, k_c2_some, k_c3_some, k_c4_some, k_c5_some, k_c6_some, k_c7_some, k_c8_some, k_c9_some, k_c10_some, k_c11_some, k_c12_some, k_c13_some, k_c14_some, k_c15_some, k_c16_some, k_c17_some, k_ld_nI, k_st_nI, k_nz_nI, k_bit0, k_bit1, pk_rem, pk_sub, q_nn, q_np, q_pn, q_lnp, q_lpn, q_enp, q_epn, nI_leI, nI_ltI, nI_eq, if_pos, if_neg, ↓reduceIte, s_cell, t3, t4]
  · refine ⟨nI st, ?_, ?_⟩ <;> simp (disch := omega) only [q_lit, nI_add, pk_mul, k_let_eq, k_c1_some, k_c2_some, k_c3_some, k_c4_some, k_c5_some, k_c6_some, k_c7_some, k_c8_some, k_c9_some, k_c10_some, k_c11_some, k_c12_some, k_c13_some, k_c14_some, k_c15_some, k_c16_some, k_c17_some, k_ld_nI, k_st_nI, k_nz_nI, k_bit0, k_bit1, pk_rem, pk_sub, q_nn, q_np, q_pn, q_lnp, q_lpn, q_enp, q_epn, nI_leI, nI_ltI, nI_eq, if_pos, if_neg, ↓reduceIte, s_cell, u2, u3]
  · refine ⟨w 6, ?_, ?_⟩ <;> simp (disch := omega) only [q_lit, nI_add, pk_mul, k_let_eq, k_c1_some, k_c2_some, k_c3_some, k_c4_some, k_c5_some, k_c6_some, k_c7_some, k_c8_some, k_c9_some, k_c10_some, k_c11_some, k_c12_some, k_c13_some, k_c14_some, k_c15_some, k_c16_some, k_c17_some, k_ld_nI, k_st_nI, k_nz_nI, k_bit0, k_bit1, pk_rem, pk_sub, q_nn, q_np, q_pn, q_lnp, q_lpn, q_enp, q_epn, nI_leI, nI_ltI, nI_eq, if_pos, if_neg, ↓reduceIte, s_cell, v1]
  · refine ⟨w 7, ?_, ?_⟩ <;> simp (disch := omega) only [q_lit, nI_add, pk_mul, k_let_eq, k_c1_some, k_c2_some, k_c3_some, k_c4_some, k_c5_some, k_c6_some, k_c7_some, k_c8_some, k_c9_some, k_c10_some, k_c11_some, k_c12_some, k_c13_some, k_c14_some, k_c15_some, k_c16_some, k_c17_some, k_ld_nI, k_st_nI, k_nz_nI, k_bit0, k_bit1, pk_rem, pk_sub, q_nn, q_np, q_pn, q_lnp, q_lpn, q_enp, q_epn, nI_leI, nI_ltI, nI_eq, if_pos, if_neg, ↓reduceIte, s_cell, v2]
  · refine ⟨w 8, ?_, ?_⟩ <;> simp (disch := omega) only [q_lit, nI_add, pk_mul, k_let_eq, k_c1_some, k_c2_some, k_c3_some, k_c4_some, k_c5_some, k_c6_some, k_c7_some, k_c8_some, k_c9_some, k_c10_some, k_c11_some, k_c12_some, k_c13_some, k_c14_some, k_c15_some, k_c16_some, k_c17_some, k_ld_nI, k_st_nI, k_nz_nI, k_bit0, k_bit1, pk_rem, pk_sub, q_nn, q_np, q_pn, q_lnp, q_lpn, q_enp, q_epn, nI_leI, nI_ltI, nI_eq, if_pos, if_neg, ↓reduceIte, s_cell, v3]
  · refine ⟨nI sl, ?_, ?_⟩ <;> simp (disch := omega) only [q_lit, nI_add, pk_mul, k_let_eq, k_c1_some, k_c2_some, k_c3_some, k_c4_some, k_c5_some, k_c6_some, k_c7_some, k_c8_some, k_c9_some, k_c10_some, k_c11_some, k_c12_some, k_c13_some, k_c14_some, k_c15_some, k_c16_some, k_c17_some, k_ld_nI, k_st_nI, k_nz_nI, k_bit0, k_bit1, pk_rem, pk_sub, q_nn, q_np, q_pn, q_lnp, q_lpn, q_enp, q_epn, nI_leI, nI_ltI, nI_eq, if_pos, if_neg, ↓reduceIte, s_cell, d2, d3, Nat.sub_self]
  · refine ⟨nI pu, ?_, ?_⟩ <;> simp (disch := omega) only [q_lit, nI_add, pk_mul, k_let_eq, k_c1_some, k_c2_some, k_c3_some, k_c4_some, k_c5_some, k_c6_some, k_c7_some, k_c8_some, k_c9_some, k_c10_some, k_c11_some, k_c12_some, k_c13_some, k_c14_some, k_c15_some, k_c16_some, k_c17_some, k_ld_nI, k_st_nI, k_nz_nI, k_bit0, k_bit1, pk_rem, pk_sub, q_nn, q_np, q_pn, q_lnp, q_lpn, q_enp, q_epn, nI_leI, nI_ltI, nI_eq, if_pos, if_neg, ↓reduceIte, s_cell, p2, p3]
  · refine ⟨nI we, ?_, ?_⟩ <;> simp (disch := omega) only [q_lit, nI_add, pk_mul, k_let_eq, k_c1_some, k_c2_some, k_c3_some, k_c4_some, k_c5_some, k_c6_some, k_c7_some, k_c8_some, k_c9_some, k_c10_some, k_c11_some, k_c12_some, k_c13_some, k_c14_some, k_c15_some, k_c16_some, k_c17_some, k_ld_nI, k_st_nI, k_nz_nI, k_bit0, k_bit1, pk_rem, pk_sub, q_nn, q_np, q_pn, q_lnp, q_lpn, q_enp, q_epn, nI_leI, nI_ltI, nI_eq, if_pos, if_neg, ↓reduceIte, s_cell, w3, w4]
  · refine ⟨pl, ?_, ?_⟩ <;> simp (disch := omega) only [q_lit, nI_add, pk_mul, k_let_eq, k_c1_some, k_c2_some, k_c3_some, k_c4_some, k_c5_some, k_c6_some, k_c7_some, k_c8_some, k_c9_some, k_c10_some, k_c11_some, k_c12_some, k_c13_some, k_c14_some, k_c15_some, k_c16_some, k_c17_some, k_ld_nI, k_st_nI, k_nz_nI, k_bit0, k_bit1, pk_rem, pk_sub, q_nn, q_np, q_pn, q_lnp, q_lpn, q_enp, q_epn, nI_leI, nI_ltI, nI_eq, if_pos, if_neg, ↓reduceIte, p_X1_length]
  · refine ⟨nI k, ?_, ?_⟩ <;> simp (disch := omega) only [q_lit, nI_add, pk_mul, k_let_eq, k_c1_some, k_c2_some, k_c3_some, k_c4_some, k_c5_some, k_c6_some, k_c7_some, k_c8_some, k_c9_some, k_c10_some, k_c11_some, k_c12_some, k_c13_some, k_c14_some, k_c15_some, k_c16_some, k_c17_some, k_ld_nI, k_st_nI, k_nz_nI, k_bit0, k_bit1, pk_rem, pk_sub, q_nn, q_np, q_pn, q_lnp, q_lpn, q_enp, q_epn, nI_leI, nI_ltI, nI_eq, if_pos, if_neg, ↓reduceIte, p_X0_length, hl', hu']
-- sets of teeth
theorem s_set_loop {N r t : Nat} {c w : Nat → Int32} (us up ue ut um : Int32) (hr : r < 8) (ht : t ≤ 24) (hc : c (9 + 27 * r) = nI t) (hw : w (9 + 27 * r) = nI t) (hh : ∀ k, k < t → c (12 + 27 * r + k) = w (12 + 27 * r + k)) (x2 : Int32) : ∀ (n k : Nat) (acc : Int32), k ≤ t → t - k < n → ∃ v, f_X3_teethOfSign_5 N n (nI r) x2 acc (nI k) c = some v ∧ f_X7_teeth_5 N n (nI r) x2 acc (nI k) us up ue ut um w = some v := by
  intro n
  induction n with
  | zero => intro k acc h1 h2; omega
  | succ n ih =>
    intro k acc h1 h2
    show ∃ v, b_X3_teethOfSign_5 N (f_X3_teethOfSign_5 N n) (nI r) x2 acc (nI k) c = some v ∧ b_X7_teeth_5 N (f_X7_teeth_5 N n) (nI r) x2 acc (nI k) us up ue ut um w = some v
    unfold b_X3_teethOfSign_5 b_X7_teeth_5
    simp only [q_lit, nI_add, k_let_eq]
    rw [s_teeth hr, k_c1_some, s_ofR hr (by omega), k_c1_some, Nat.add_zero (9 + 27 * r), hc, hw]
    by_cases hk : k = t
    · rw [if_pos (by rw [nI_leI (by omega) (by omega)]; omega), if_pos (by rw [nI_leI (by omega) (by omega)]; omega)]
      exact ⟨acc, rfl, rfl⟩
    · rw [if_neg (by rw [nI_leI (by omega) (by omega)]; omega), if_neg (by rw [nI_leI (by omega) (by omega)]; omega), s_height hr (by omega), k_c1_some, s_ofR hr (by omega), k_c1_some, show 9 + 27 * r + (3 + k) = 12 + 27 * r + k by omega, hh k (by omega), Int32.mul_comm (w (12 + 27 * r + k)) x2]
      by_cases hq : x2 * w (12 + 27 * r + k) ≤ nI 0
      · rw [if_pos hq, if_pos hq, show acc ||| nI 0 = acc from Int32.or_zero]
        exact ih (k + 1) acc (by omega) (by omega)
      · rw [if_neg hq, if_neg hq]
        exact ih (k + 1) _ (by omega) (by omega)
-- the greatest and the least height
theorem s_gr_loop {N r t : Nat} {c w : Nat → Int32} (us up ue ut um : Int32) (hr : r < 8) (ht : t ≤ 24) (hc : c (9 + 27 * r) = nI t) (hw : w (9 + 27 * r) = nI t) (hh : ∀ k, k < t → c (12 + 27 * r + k) = w (12 + 27 * r + k)) : ∀ (n k : Nat) (acc : Int32), k ≤ t → t - k < n → ∃ v, f_X3_greatestHeight_9 N n (nI r) acc (nI k) c = some v ∧ f_X7_height_10 N n (nI r) (nI 1) acc (nI k) us up ue ut um w = some v := by
  intro n
  induction n with
  | zero => intro k acc h1 h2; omega
  | succ n ih =>
    intro k acc h1 h2
    show ∃ v, b_X3_greatestHeight_9 N (f_X3_greatestHeight_9 N n) (nI r) acc (nI k) c = some v ∧ b_X7_height_10 N (f_X7_height_10 N n) (nI r) (nI 1) acc (nI k) us up ue ut um w = some v
    unfold b_X3_greatestHeight_9 b_X7_height_10
    simp only [q_lit, nI_add, k_let_eq]
    rw [s_teeth hr, k_c1_some, s_ofR hr (by omega), k_c1_some, Nat.add_zero (9 + 27 * r), hc, hw]
    by_cases hk : k = t
    · rw [if_pos (by rw [nI_leI (by omega) (by omega)]; omega), if_pos (by rw [nI_leI (by omega) (by omega)]; omega)]
      exact ⟨acc, rfl, rfl⟩
    · rw [if_neg (by rw [nI_leI (by omega) (by omega)]; omega), if_neg (by rw [nI_leI (by omega) (by omega)]; omega), s_height hr (by omega), k_c1_some, s_ofR hr (by omega), k_c1_some, show 9 + 27 * r + (3 + k) = 12 + 27 * r + k by omega, hh k (by omega)]
      have e : ∀ x : Int32, nI 1 * x = x := fun x => Int32.one_mul x
      rw [e, e]
      unfold k_max
      by_cases hq : w (12 + 27 * r + k) ≤ acc
      · rw [if_pos hq, if_neg (by rw [Int32.lt_iff_toInt_lt]; rw [Int32.le_iff_toInt_le] at hq; omega)]
        exact ih (k + 1) acc (by omega) (by omega)
      · rw [if_neg hq, if_pos (by rw [Int32.lt_iff_toInt_lt]; rw [Int32.le_iff_toInt_le] at hq; omega)]
        exact ih (k + 1) _ (by omega) (by omega)
theorem s_le_loop {N r t : Nat} {c w : Nat → Int32} (us up ue ut um : Int32) (hr : r < 8) (ht : t ≤ 24) (hc : c (9 + 27 * r) = nI t) (hw : w (9 + 27 * r) = nI t) (hh : ∀ k, k < t → c (12 + 27 * r + k) = w (12 + 27 * r + k) ∧ -9 ≤ (w (12 + 27 * r + k)).toInt ∧ (w (12 + 27 * r + k)).toInt ≤ 9) : ∀ (n k : Nat) (acc : Int32), k ≤ t → t - k < n → -9 ≤ acc.toInt → acc.toInt ≤ 9 → ∃ v, f_X3_leastHeight_9 N n (nI r) acc (nI k) c = some v ∧ f_X7_height_10 N n (nI r) (-nI 1) acc (nI k) us up ue ut um w = some v := by
  intro n
  induction n with
  | zero => intro k acc h1 h2; omega
  | succ n ih =>
    intro k acc h1 h2 h3 h4
    show ∃ v, b_X3_leastHeight_9 N (f_X3_leastHeight_9 N n) (nI r) acc (nI k) c = some v ∧ b_X7_height_10 N (f_X7_height_10 N n) (nI r) (-nI 1) acc (nI k) us up ue ut um w = some v
    unfold b_X3_leastHeight_9 b_X7_height_10
    simp only [q_lit, nI_add, k_let_eq]
    rw [s_teeth hr, k_c1_some, s_ofR hr (by omega), k_c1_some, Nat.add_zero (9 + 27 * r), hc, hw]
    by_cases hk : k = t
    · rw [if_pos (by rw [nI_leI (by omega) (by omega)]; omega), if_pos (by rw [nI_leI (by omega) (by omega)]; omega)]
      exact ⟨acc, rfl, rfl⟩
    · have hk2 := hh k (by omega)
      rw [if_neg (by rw [nI_leI (by omega) (by omega)]; omega), if_neg (by rw [nI_leI (by omega) (by omega)]; omega), s_height hr (by omega), k_c1_some, s_ofR hr (by omega), k_c1_some, show 9 + 27 * r + (3 + k) = 12 + 27 * r + k by omega, hk2.1]
      have e : ∀ x : Int32, -nI 1 * x = -x := fun x => by rw [Int32.neg_mul]; congr 1; exact Int32.one_mul x
      rw [e, e]
      unfold k_min
      by_cases hq : -w (12 + 27 * r + k) ≤ -acc
      · have hq2 := hq
        rw [Int32.le_iff_toInt_le, q_ng (by omega), q_ng (by omega)] at hq2
        rw [if_pos hq, if_neg (by rw [Int32.lt_iff_toInt_lt]; omega)]
        exact ih (k + 1) acc (by omega) (by omega) h3 h4
      · have hq2 := hq
        rw [Int32.le_iff_toInt_le, q_ng (by omega), q_ng (by omega)] at hq2
        rw [if_neg hq, if_pos (by rw [Int32.lt_iff_toInt_lt]; omega)]
        exact ih (k + 1) _ (by omega) (by omega) hk2.2.1 hk2.2.2
theorem e_of {N : Nat} {c w : Nat → Int32} (hN : 20000 ≤ N) (hR : SR c w) (x1 x2 : Int32) (us up ue ut um : Int32) : ∃ r, p_X6_of N x1 x2 c = some r ∧ p_X7_of N x1 x2 us up ue ut um w = some r := by
  obtain ⟨⟨m, h8, h0, h3, hr⟩, -⟩ := id hR
  unfold p_X6_of p_X7_of
  rcases q_ro_dec x1 m with ⟨r, hrm, rfl⟩ | h1
  rotate_left
  · refine ⟨-nI 1, ?_, ?_⟩
    · rw [s_has_f h8 h0 h1]; simp (disch := omega) only [q_lit, nI_add, pk_mul, k_let_eq, k_c1_some, k_c2_some, k_c3_some, k_c4_some, k_c5_some, k_c6_some, k_c7_some, k_c8_some, k_c9_some, k_c10_some, k_c11_some, k_c12_some, k_c13_some, k_c14_some, k_c15_some, k_c16_some, k_c17_some, k_ld_nI, k_st_nI, k_nz_nI, k_bit0, k_bit1, pk_rem, pk_sub, q_nn, q_np, q_pn, q_lnp, q_lpn, q_enp, q_epn, nI_leI, nI_ltI, nI_eq, if_pos, if_neg, ↓reduceIte]
    · rw [s_isR_f us up ue ut um h8 h3 h1]; simp (disch := omega) only [q_lit, nI_add, pk_mul, k_let_eq, k_c1_some, k_c2_some, k_c3_some, k_c4_some, k_c5_some, k_c6_some, k_c7_some, k_c8_some, k_c9_some, k_c10_some, k_c11_some, k_c12_some, k_c13_some, k_c14_some, k_c15_some, k_c16_some, k_c17_some, k_ld_nI, k_st_nI, k_nz_nI, k_bit0, k_bit1, pk_rem, pk_sub, q_nn, q_np, q_pn, q_lnp, q_lpn, q_enp, q_epn, nI_leI, nI_ltI, nI_eq, if_pos, if_neg, ↓reduceIte]
  rw [s_has_t h8 h0 hrm, s_isR_t us up ue ut um h8 h3 hrm]
  obtain ⟨t, t1, t2, t3, t4, t5, t6, t7⟩ := hr r hrm
  rcases q_dec x2 0 6 with h2 | h2
  rotate_left
  · have e := fun k hk => q_notin (n := 6) (k := k) (by omega) h2 hk
    refine ⟨-nI 2, ?_, ?_⟩ <;> simp (disch := omega) only [q_lit, nI_add, pk_mul, k_let_eq, k_c1_some, k_c2_some, k_c3_some, k_c4_some, k_c5_some, k_c6_some, k_c7_some, k_c8_some, k_c9_some, k_c10_some, k_c11_some, k_c12_some, k_c13_some, k_c14_some, k_c15_some, k_c16_some, k_c17_some, k_ld_nI, k_st_nI, k_nz_nI, k_bit0, k_bit1, pk_rem, pk_sub, q_nn, q_np, q_pn, q_lnp, q_lpn, q_enp, q_epn, nI_leI, nI_ltI, nI_eq, if_pos, if_neg, ↓reduceIte, e 0 (by omega), e 1 (by omega), e 2 (by omega), e 3 (by omega), e 4 (by omega), e 5 (by omega), e 6 (by omega)]
  obtain ⟨j, -, hj, rfl⟩ := q_in_nat (a := 0) (b := 6) (by omega) h2
  have h70 := t7 0 (by omega)
  rcases (show j = 0 ∨ j = 1 ∨ j = 2 ∨ j = 3 ∨ j = 4 ∨ j = 5 ∨ j = 6 by omega) with rfl | rfl | rfl | rfl | rfl | rfl | rfl
  · refine ⟨nI t, ?_, ?_⟩
    · simp (disch := omega) only [q_lit, nI_add, pk_mul, k_let_eq, k_c1_some, k_c2_some, k_c3_some, k_c4_some, k_c5_some, k_c6_some, k_c7_some, k_c8_some, k_c9_some, k_c10_some, k_c11_some, k_c12_some, k_c13_some, k_c14_some, k_c15_some, k_c16_some, k_c17_some, k_ld_nI, k_st_nI, k_nz_nI, k_bit0, k_bit1, pk_rem, pk_sub, q_nn, q_np, q_pn, q_lnp, q_lpn, q_enp, q_epn, nI_leI, nI_ltI, nI_eq, if_pos, if_neg, ↓reduceIte, s_teeth, t3]
    · simp (disch := omega) only [q_lit, nI_add, pk_mul, k_let_eq, k_c1_some, k_c2_some, k_c3_some, k_c4_some, k_c5_some, k_c6_some, k_c7_some, k_c8_some, k_c9_some, k_c10_some, k_c11_some, k_c12_some, k_c13_some, k_c14_some, k_c15_some, k_c16_some, k_c17_some, k_ld_nI, k_st_nI, k_nz_nI, k_bit0, k_bit1, pk_rem, pk_sub, q_nn, q_np, q_pn, q_lnp, q_lpn, q_enp, q_epn, nI_leI, nI_ltI, nI_eq, if_pos, if_neg, ↓reduceIte, s_ofR, Nat.add_zero, t4]
  · obtain ⟨v, e1, e2⟩ := s_set_loop (N := N) us up ue ut um (show r < 8 by omega) t2 t3 t4 (fun k hk => (t7 k hk).1) (nI 1) N 0 (nI 0) (by omega) (by omega)
    refine ⟨v, ?_, ?_⟩
    · simp (disch := omega) only [q_lit, nI_add, pk_mul, k_let_eq, k_c1_some, k_c2_some, k_c3_some, k_c4_some, k_c5_some, k_c6_some, k_c7_some, k_c8_some, k_c9_some, k_c10_some, k_c11_some, k_c12_some, k_c13_some, k_c14_some, k_c15_some, k_c16_some, k_c17_some, k_ld_nI, k_st_nI, k_nz_nI, k_bit0, k_bit1, pk_rem, pk_sub, q_nn, q_np, q_pn, q_lnp, q_lpn, q_enp, q_epn, nI_leI, nI_ltI, nI_eq, if_pos, if_neg, ↓reduceIte, p_X3_teethOfSign, e1]
    · simp (disch := omega) only [q_lit, nI_add, pk_mul, k_let_eq, k_c1_some, k_c2_some, k_c3_some, k_c4_some, k_c5_some, k_c6_some, k_c7_some, k_c8_some, k_c9_some, k_c10_some, k_c11_some, k_c12_some, k_c13_some, k_c14_some, k_c15_some, k_c16_some, k_c17_some, k_ld_nI, k_st_nI, k_nz_nI, k_bit0, k_bit1, pk_rem, pk_sub, q_nn, q_np, q_pn, q_lnp, q_lpn, q_enp, q_epn, nI_leI, nI_ltI, nI_eq, if_pos, if_neg, ↓reduceIte, p_X7_teeth, e2]
  · obtain ⟨v, e1, e2⟩ := s_set_loop (N := N) us up ue ut um (show r < 8 by omega) t2 t3 t4 (fun k hk => (t7 k hk).1) (-nI 1) N 0 (nI 0) (by omega) (by omega)
    refine ⟨v, ?_, ?_⟩
    · simp (disch := omega) only [q_lit, nI_add, pk_mul, k_let_eq, k_c1_some, k_c2_some, k_c3_some, k_c4_some, k_c5_some, k_c6_some, k_c7_some, k_c8_some, k_c9_some, k_c10_some, k_c11_some, k_c12_some, k_c13_some, k_c14_some, k_c15_some, k_c16_some, k_c17_some, k_ld_nI, k_st_nI, k_nz_nI, k_bit0, k_bit1, pk_rem, pk_sub, q_nn, q_np, q_pn, q_lnp, q_lpn, q_enp, q_epn, nI_leI, nI_ltI, nI_eq, if_pos, if_neg, ↓reduceIte, p_X3_teethOfSign, e1]
    · simp (disch := omega) only [q_lit, nI_add, pk_mul, k_let_eq, k_c1_some, k_c2_some, k_c3_some, k_c4_some, k_c5_some, k_c6_some, k_c7_some, k_c8_some, k_c9_some, k_c10_some, k_c11_some, k_c12_some, k_c13_some, k_c14_some, k_c15_some, k_c16_some, k_c17_some, k_ld_nI, k_st_nI, k_nz_nI, k_bit0, k_bit1, pk_rem, pk_sub, q_nn, q_np, q_pn, q_lnp, q_lpn, q_enp, q_epn, nI_leI, nI_ltI, nI_eq, if_pos, if_neg, ↓reduceIte, p_X7_teeth, e2]
  · obtain ⟨v, e1, e2⟩ := s_gr_loop (N := N) us up ue ut um (show r < 8 by omega) t2 t3 t4 (fun k hk => (t7 k hk).1) N 1 (w (12 + 27 * r + 0)) (by omega) (by omega)
    refine ⟨v + nI 9, ?_, ?_⟩
    · simp (disch := omega) only [q_lit, nI_add, pk_mul, k_let_eq, k_c1_some, k_c2_some, k_c3_some, k_c4_some, k_c5_some, k_c6_some, k_c7_some, k_c8_some, k_c9_some, k_c10_some, k_c11_some, k_c12_some, k_c13_some, k_c14_some, k_c15_some, k_c16_some, k_c17_some, k_ld_nI, k_st_nI, k_nz_nI, k_bit0, k_bit1, pk_rem, pk_sub, q_nn, q_np, q_pn, q_lnp, q_lpn, q_enp, q_epn, nI_leI, nI_ltI, nI_eq, if_pos, if_neg, ↓reduceIte, p_X3_greatestHeight, s_height, h70.1, e1]
    · simp (disch := omega) only [q_lit, nI_add, pk_mul, k_let_eq, k_c1_some, k_c2_some, k_c3_some, k_c4_some, k_c5_some, k_c6_some, k_c7_some, k_c8_some, k_c9_some, k_c10_some, k_c11_some, k_c12_some, k_c13_some, k_c14_some, k_c15_some, k_c16_some, k_c17_some, k_ld_nI, k_st_nI, k_nz_nI, k_bit0, k_bit1, pk_rem, pk_sub, q_nn, q_np, q_pn, q_lnp, q_lpn, q_enp, q_epn, nI_leI, nI_ltI, nI_eq, if_pos, if_neg, ↓reduceIte, p_X7_height, s_ofR]
      rw [show 9 + 27 * r + 3 = 12 + 27 * r + 0 by omega, e2]
      rfl
  · obtain ⟨v, e1, e2⟩ := s_le_loop (N := N) us up ue ut um (show r < 8 by omega) t2 t3 t4 t7 N 1 (w (12 + 27 * r + 0)) (by omega) (by omega) h70.2.1 h70.2.2
    refine ⟨v + nI 9, ?_, ?_⟩
    · simp (disch := omega) only [q_lit, nI_add, pk_mul, k_let_eq, k_c1_some, k_c2_some, k_c3_some, k_c4_some, k_c5_some, k_c6_some, k_c7_some, k_c8_some, k_c9_some, k_c10_some, k_c11_some, k_c12_some, k_c13_some, k_c14_some, k_c15_some, k_c16_some, k_c17_some, k_ld_nI, k_st_nI, k_nz_nI, k_bit0, k_bit1, pk_rem, pk_sub, q_nn, q_np, q_pn, q_lnp, q_lpn, q_enp, q_epn, nI_leI, nI_ltI, nI_eq, if_pos, if_neg, ↓reduceIte, p_X3_leastHeight, s_height, h70.1, e1]
    · simp (disch := omega) only [q_lit, nI_add, pk_mul, k_let_eq, k_c1_some, k_c2_some, k_c3_some, k_c4_some, k_c5_some, k_c6_some, k_c7_some, k_c8_some, k_c9_some, k_c10_some, k_c11_some, k_c12_some, k_c13_some, k_c14_some, k_c15_some, k_c16_some, k_c17_some, k_ld_nI, k_st_nI, k_nz_nI, k_bit0, k_bit1, pk_rem, pk_sub, q_nn, q_np, q_pn, q_lnp, q_lpn, q_enp, q_epn, nI_leI, nI_ltI, nI_eq, if_pos, if_neg, ↓reduceIte, p_X7_height, s_ofR]
      rw [show 9 + 27 * r + 3 = 12 + 27 * r + 0 by omega, e2]
      rfl
  · refine ⟨w (10 + 27 * r), ?_, ?_⟩
    · simp (disch := omega) only [q_lit, nI_add, pk_mul, k_let_eq, k_c1_some, k_c2_some, k_c3_some, k_c4_some, k_c5_some, k_c6_some, k_c7_some, k_c8_some, k_c9_some, k_c10_some, k_c11_some, k_c12_some, k_c13_some, k_c14_some, k_c15_some, k_c16_some, k_c17_some, k_ld_nI, k_st_nI, k_nz_nI, k_bit0, k_bit1, pk_rem, pk_sub, q_nn, q_np, q_pn, q_lnp, q_lpn, q_enp, q_epn, nI_leI, nI_ltI, nI_eq, if_pos, if_neg, ↓reduceIte, s_made, t5]
    · simp (disch := omega) only [q_lit, nI_add, pk_mul, k_let_eq, k_c1_some, k_c2_some, k_c3_some, k_c4_some, k_c5_some, k_c6_some, k_c7_some, k_c8_some, k_c9_some, k_c10_some, k_c11_some, k_c12_some, k_c13_some, k_c14_some, k_c15_some, k_c16_some, k_c17_some, k_ld_nI, k_st_nI, k_nz_nI, k_bit0, k_bit1, pk_rem, pk_sub, q_nn, q_np, q_pn, q_lnp, q_lpn, q_enp, q_epn, nI_leI, nI_ltI, nI_eq, if_pos, if_neg, ↓reduceIte, s_ofR]
      rw [show 9 + 27 * r + 1 = 10 + 27 * r by omega]
  · refine ⟨w (11 + 27 * r), ?_, ?_⟩
    · simp (disch := omega) only [q_lit, nI_add, pk_mul, k_let_eq, k_c1_some, k_c2_some, k_c3_some, k_c4_some, k_c5_some, k_c6_some, k_c7_some, k_c8_some, k_c9_some, k_c10_some, k_c11_some, k_c12_some, k_c13_some, k_c14_some, k_c15_some, k_c16_some, k_c17_some, k_ld_nI, k_st_nI, k_nz_nI, k_bit0, k_bit1, pk_rem, pk_sub, q_nn, q_np, q_pn, q_lnp, q_lpn, q_enp, q_epn, nI_leI, nI_ltI, nI_eq, if_pos, if_neg, ↓reduceIte, s_worn, t6]
    · simp (disch := omega) only [q_lit, nI_add, pk_mul, k_let_eq, k_c1_some, k_c2_some, k_c3_some, k_c4_some, k_c5_some, k_c6_some, k_c7_some, k_c8_some, k_c9_some, k_c10_some, k_c11_some, k_c12_some, k_c13_some, k_c14_some, k_c15_some, k_c16_some, k_c17_some, k_ld_nI, k_st_nI, k_nz_nI, k_bit0, k_bit1, pk_rem, pk_sub, q_nn, q_np, q_pn, q_lnp, q_lpn, q_enp, q_epn, nI_leI, nI_ltI, nI_eq, if_pos, if_neg, ↓reduceIte, s_ofR]
      rw [show 9 + 27 * r + 2 = 11 + 27 * r by omega]
