-- pair, why, leastGap, bestOffset: one answer of both programs
theorem q_notin {x : Int32} {n k : Nat} (hn : n < 2 ^ 31) (h : ¬ q_in x 0 n) (hk : k ≤ n) : ¬ x = nI k := by
  intro q
  exact h (by rw [q, q_in_nI (by omega)]; omega)
theorem is_min_sh {Q : Nat → Int} {T : Nat} {v g : Int} (h : is_min (fun s => g + Q s) T v) : is_min Q T (v - g) := by
  obtain ⟨h1, s, hs, e⟩ := h
  exact ⟨fun s hs => by have := h1 s hs; dsimp only at this; omega, s, hs, by dsimp only at e; omega⟩
theorem is_max_sh {Q : Nat → Int} {T : Nat} {v g : Int} (h : is_max (fun s => g + Q s) T v) : is_max Q T (v - g) := by
  obtain ⟨h1, s, hs, e⟩ := h
  exact ⟨fun s hs => by have := h1 s hs; dsimp only at this; omega, s, hs, by dsimp only at e; omega⟩
theorem e_pair {N : Nat} {c w : Nat → Int32} (hN : 20000 ≤ N) (hR : SR c w) (x1 x2 x3 x4 x5 tl ta tt : Int32) (tp : Nat → Int32) (us up ue ut um : Int32) :
    ∃ r tl' tp', p_X6_pair N x1 x2 x3 x4 x5 c tl ta tt tp = some (r, tl', tp') ∧ p_X7_pair N x1 x2 x3 x4 x5 us up ue ut um w = some r := by
  obtain ⟨⟨m, hm⟩, th, st, sl, pu, we, -, -, -, ⟨d1, d2, d3⟩, -, -⟩ := hR
  unfold p_X6_pair p_X6_questionError p_X7_pair
  rcases s_err (N := N) us up ue ut um hm x1 x2 x3 x4 with ⟨e, e1, e2, h1, h2⟩ | ⟨u, l, o, g, hu, hl, hne, ho, hg, rfl, rfl, rfl, rfl, h1, h2⟩
  · refine ⟨-nI e, tl, tp, ?_, ?_⟩
    · rw [h1]; simp (disch := omega) only [q_lit, nI_add, pk_mul, k_let_eq, k_c1_some, k_c2_some, k_c3_some, k_c4_some, k_c5_some, k_c6_some, k_c7_some, k_c8_some, k_c9_some, k_c10_some, k_c11_some, k_c12_some, k_c13_some, k_c14_some, k_c15_some, k_c16_some, k_c17_some, k_ld_nI, k_st_nI, k_nz_nI, k_bit0, k_bit1, pk_rem, pk_sub, q_nn, q_np, q_pn, q_lnp, q_lpn, q_enp, q_epn, nI_leI, nI_ltI, nI_eq, if_pos, if_neg, ↓reduceIte]
    · rw [h2]; simp (disch := omega) only [q_lit, nI_add, pk_mul, k_let_eq, k_c1_some, k_c2_some, k_c3_some, k_c4_some, k_c5_some, k_c6_some, k_c7_some, k_c8_some, k_c9_some, k_c10_some, k_c11_some, k_c12_some, k_c13_some, k_c14_some, k_c15_some, k_c16_some, k_c17_some, k_ld_nI, k_st_nI, k_nz_nI, k_bit0, k_bit1, pk_rem, pk_sub, q_nn, q_np, q_pn, q_lnp, q_lpn, q_enp, q_epn, nI_leI, nI_ltI, nI_eq, if_pos, if_neg, ↓reduceIte]
  rw [h1, h2]
  rcases q_dec x5 0 3 with h5 | h5
  rotate_left
  · refine ⟨-nI 2, tl, tp, ?_, ?_⟩
    · rw [s_outside_f (show ¬ q_in x5 (0 : Int32).toInt (3 : Int32).toInt from h5)]; simp (disch := omega) only [q_lit, nI_add, pk_mul, k_let_eq, k_c1_some, k_c2_some, k_c3_some, k_c4_some, k_c5_some, k_c6_some, k_c7_some, k_c8_some, k_c9_some, k_c10_some, k_c11_some, k_c12_some, k_c13_some, k_c14_some, k_c15_some, k_c16_some, k_c17_some, k_ld_nI, k_st_nI, k_nz_nI, k_bit0, k_bit1, pk_rem, pk_sub, q_nn, q_np, q_pn, q_lnp, q_lpn, q_enp, q_epn, nI_leI, nI_ltI, nI_eq, if_pos, if_neg, ↓reduceIte]
    · have k0 := q_notin (n := 3) (k := 0) (by omega) h5 (by omega)
      have k1 := q_notin (n := 3) (k := 1) (by omega) h5 (by omega)
      have k2 := q_notin (n := 3) (k := 2) (by omega) h5 (by omega)
      have k3 := q_notin (n := 3) (k := 3) (by omega) h5 (by omega)
      simp (disch := omega) only [q_lit, nI_add, pk_mul, k_let_eq, k_c1_some, k_c2_some, k_c3_some, k_c4_some, k_c5_some, k_c6_some, k_c7_some, k_c8_some, k_c9_some, k_c10_some, k_c11_some, k_c12_some, k_c13_some, k_c14_some, k_c15_some, k_c16_some, k_c17_some, k_ld_nI, k_st_nI, k_nz_nI, k_bit0, k_bit1, pk_rem, pk_sub, q_nn, q_np, q_pn, q_lnp, q_lpn, q_enp, q_epn, nI_leI, nI_ltI, nI_eq, if_pos, if_neg, ↓reduceIte, k0, k1, k2, k3]
  rw [s_outside_t (show q_in x5 (0 : Int32).toInt (3 : Int32).toInt from h5)]
  obtain ⟨j, -, hj, rfl⟩ := q_in_nat (a := 0) (b := 3) (by omega) h5
  obtain ⟨a, b, hP⟩ := PC_of hm hu hl
  obtain ⟨⟨hu8, hl8⟩, ⟨a1, a2, a3, a4⟩, ⟨b1, b2, b3, b4⟩, -, -⟩ := id hP
  obtain ⟨T0, T1⟩ := q_T a1 a2 b1 b2
  obtain ⟨tp', et, hQ⟩ := s_layQ hN tl ta tt tp hP ho hg
  rcases (show j = 0 ∨ j = 1 ∨ j = 2 ∨ j = 3 by omega) with rfl | rfl | rfl | rfl
  · refine ⟨nI (Nat.lcm a b), nI (Nat.lcm a b), tp', ?_, ?_⟩
    · simp (disch := omega) only [q_lit, nI_add, pk_mul, k_let_eq, k_c1_some, k_c2_some, k_c3_some, k_c4_some, k_c5_some, k_c6_some, k_c7_some, k_c8_some, k_c9_some, k_c10_some, k_c11_some, k_c12_some, k_c13_some, k_c14_some, k_c15_some, k_c16_some, k_c17_some, k_ld_nI, k_st_nI, k_nz_nI, k_bit0, k_bit1, pk_rem, pk_sub, q_nn, q_np, q_pn, q_lnp, q_lpn, q_enp, q_epn, nI_leI, nI_ltI, nI_eq, if_pos, if_neg, ↓reduceIte, et, p_X5_length]
    · simp (disch := omega) only [q_lit, nI_add, pk_mul, k_let_eq, k_c1_some, k_c2_some, k_c3_some, k_c4_some, k_c5_some, k_c6_some, k_c7_some, k_c8_some, k_c9_some, k_c10_some, k_c11_some, k_c12_some, k_c13_some, k_c14_some, k_c15_some, k_c16_some, k_c17_some, k_ld_nI, k_st_nI, k_nz_nI, k_bit0, k_bit1, pk_rem, pk_sub, q_nn, q_np, q_pn, q_lnp, q_lpn, q_enp, q_epn, nI_leI, nI_ltI, nI_eq, if_pos, if_neg, ↓reduceIte, s_turn hN us up ue ut um hu8 hl8 a4 b4 a1 a2 b1 b2]
  · obtain ⟨v, ev, hv⟩ := s_lp (ta := ta) (tt := tt) hN hQ
    obtain ⟨v', ev', hv'⟩ := s_ex (k := 1) hN us up ue ut um hP ho (by omega)
    rw [if_pos rfl] at hv'
    have e := is_min_uni (is_min_sh hv) hv'
    refine ⟨v + 100, nI (Nat.lcm a b), tp', ?_, ?_⟩
    · simp (disch := omega) only [q_lit, nI_add, pk_mul, k_let_eq, k_c1_some, k_c2_some, k_c3_some, k_c4_some, k_c5_some, k_c6_some, k_c7_some, k_c8_some, k_c9_some, k_c10_some, k_c11_some, k_c12_some, k_c13_some, k_c14_some, k_c15_some, k_c16_some, k_c17_some, k_ld_nI, k_st_nI, k_nz_nI, k_bit0, k_bit1, pk_rem, pk_sub, q_nn, q_np, q_pn, q_lnp, q_lpn, q_enp, q_epn, nI_leI, nI_ltI, nI_eq, if_pos, if_neg, ↓reduceIte, et, ev]
    · simp (disch := omega) only [q_lit, nI_add, pk_mul, k_let_eq, k_c1_some, k_c2_some, k_c3_some, k_c4_some, k_c5_some, k_c6_some, k_c7_some, k_c8_some, k_c9_some, k_c10_some, k_c11_some, k_c12_some, k_c13_some, k_c14_some, k_c15_some, k_c16_some, k_c17_some, k_ld_nI, k_st_nI, k_nz_nI, k_bit0, k_bit1, pk_rem, pk_sub, q_nn, q_np, q_pn, q_lnp, q_lpn, q_enp, q_epn, nI_leI, nI_ltI, nI_eq, if_pos, if_neg, ↓reduceIte, ev']
      congr 2
      obtain ⟨-, s, -, es⟩ := hv'
      have bd := sp_q_bd hP o s
      rw [← Int32.toInt_inj, q_add (by rw [nI_toInt (by omega)]; omega) (by rw [nI_toInt (by omega)]; omega), nI_toInt (by omega)]
      omega
  · obtain ⟨v, ev, hv⟩ := s_gp (ta := ta) (tt := tt) hN hQ
    obtain ⟨v', ev', hv'⟩ := s_ex (k := 0) hN us up ue ut um hP ho (by omega)
    rw [if_neg (by decide)] at hv'
    have e := is_max_uni (is_max_sh hv) hv'
    refine ⟨v + 100, nI (Nat.lcm a b), tp', ?_, ?_⟩
    · simp (disch := omega) only [q_lit, nI_add, pk_mul, k_let_eq, k_c1_some, k_c2_some, k_c3_some, k_c4_some, k_c5_some, k_c6_some, k_c7_some, k_c8_some, k_c9_some, k_c10_some, k_c11_some, k_c12_some, k_c13_some, k_c14_some, k_c15_some, k_c16_some, k_c17_some, k_ld_nI, k_st_nI, k_nz_nI, k_bit0, k_bit1, pk_rem, pk_sub, q_nn, q_np, q_pn, q_lnp, q_lpn, q_enp, q_epn, nI_leI, nI_ltI, nI_eq, if_pos, if_neg, ↓reduceIte, et, ev]
    · simp (disch := omega) only [q_lit, nI_add, pk_mul, k_let_eq, k_c1_some, k_c2_some, k_c3_some, k_c4_some, k_c5_some, k_c6_some, k_c7_some, k_c8_some, k_c9_some, k_c10_some, k_c11_some, k_c12_some, k_c13_some, k_c14_some, k_c15_some, k_c16_some, k_c17_some, k_ld_nI, k_st_nI, k_nz_nI, k_bit0, k_bit1, pk_rem, pk_sub, q_nn, q_np, q_pn, q_lnp, q_lpn, q_enp, q_epn, nI_leI, nI_ltI, nI_eq, if_pos, if_neg, ↓reduceIte, ev']
      congr 2
      obtain ⟨-, s, -, es⟩ := hv'
      have bd := sp_q_bd hP o s
      rw [← Int32.toInt_inj, q_add (by rw [nI_toInt (by omega)]; omega) (by rw [nI_toInt (by omega)]; omega), nI_toInt (by omega)]
      omega
  · have em := s_meshes (σ := sl) (ta := ta) (tt := tt) hN hQ d1
    have ea := s_ag (σ := sl) hN us up ue ut um hP ho hg d1 d3
    cases hf : sp_ff (sp_bad (fun s => (g : Int) + sp_q w u l o a b s) (Nat.lcm a b) sl) (Nat.lcm a b) 0 with
    | none =>
      rw [hf, if_pos rfl] at em
      rw [hf] at ea
      refine ⟨nI 1, nI (Nat.lcm a b), tp', ?_, ?_⟩
      · simp (disch := omega) only [q_lit, nI_add, pk_mul, k_let_eq, k_c1_some, k_c2_some, k_c3_some, k_c4_some, k_c5_some, k_c6_some, k_c7_some, k_c8_some, k_c9_some, k_c10_some, k_c11_some, k_c12_some, k_c13_some, k_c14_some, k_c15_some, k_c16_some, k_c17_some, k_ld_nI, k_st_nI, k_nz_nI, k_bit0, k_bit1, pk_rem, pk_sub, q_nn, q_np, q_pn, q_lnp, q_lpn, q_enp, q_epn, nI_leI, nI_ltI, nI_eq, if_pos, if_neg, ↓reduceIte, et, s_setting, d2, em]
      · simp (disch := omega) only [q_lit, nI_add, pk_mul, k_let_eq, k_c1_some, k_c2_some, k_c3_some, k_c4_some, k_c5_some, k_c6_some, k_c7_some, k_c8_some, k_c9_some, k_c10_some, k_c11_some, k_c12_some, k_c13_some, k_c14_some, k_c15_some, k_c16_some, k_c17_some, k_ld_nI, k_st_nI, k_nz_nI, k_bit0, k_bit1, pk_rem, pk_sub, q_nn, q_np, q_pn, q_lnp, q_lpn, q_enp, q_epn, nI_leI, nI_ltI, nI_eq, if_pos, if_neg, ↓reduceIte, ea, sp_ans2]
    | some s =>
      have hs := sp_ff_some _ _ _ hf
      rw [hf, if_neg (fun q => by cases q)] at em
      rw [hf] at ea
      refine ⟨nI 0, nI (Nat.lcm a b), tp', ?_, ?_⟩
      · simp (disch := omega) only [q_lit, nI_add, pk_mul, k_let_eq, k_c1_some, k_c2_some, k_c3_some, k_c4_some, k_c5_some, k_c6_some, k_c7_some, k_c8_some, k_c9_some, k_c10_some, k_c11_some, k_c12_some, k_c13_some, k_c14_some, k_c15_some, k_c16_some, k_c17_some, k_ld_nI, k_st_nI, k_nz_nI, k_bit0, k_bit1, pk_rem, pk_sub, q_nn, q_np, q_pn, q_lnp, q_lpn, q_enp, q_epn, nI_leI, nI_ltI, nI_eq, if_pos, if_neg, ↓reduceIte, et, s_setting, d2, em]
      · simp (disch := omega) only [q_lit, nI_add, pk_mul, k_let_eq, k_c1_some, k_c2_some, k_c3_some, k_c4_some, k_c5_some, k_c6_some, k_c7_some, k_c8_some, k_c9_some, k_c10_some, k_c11_some, k_c12_some, k_c13_some, k_c14_some, k_c15_some, k_c16_some, k_c17_some, k_ld_nI, k_st_nI, k_nz_nI, k_bit0, k_bit1, pk_rem, pk_sub, q_nn, q_np, q_pn, q_lnp, q_lpn, q_enp, q_epn, nI_leI, nI_ltI, nI_eq, if_pos, if_neg, ↓reduceIte, ea, sp_ans2]
        split <;> simp (disch := omega) only [q_lit, nI_add, pk_mul, k_let_eq, k_c1_some, k_c2_some, k_c3_some, k_c4_some, k_c5_some, k_c6_some, k_c7_some, k_c8_some, k_c9_some, k_c10_some, k_c11_some, k_c12_some, k_c13_some, k_c14_some, k_c15_some, k_c16_some, k_c17_some, k_ld_nI, k_st_nI, k_nz_nI, k_bit0, k_bit1, pk_rem, pk_sub, q_nn, q_np, q_pn, q_lnp, q_lpn, q_enp, q_epn, nI_leI, nI_ltI, nI_eq, if_pos, if_neg, ↓reduceIte]
theorem e_why {N : Nat} {c w : Nat → Int32} (hN : 20000 ≤ N) (hR : SR c w) (x1 x2 x3 x4 x5 tl ta tt : Int32) (tp : Nat → Int32) (us up ue ut um : Int32) :
    ∃ r tl' tp', p_X6_why N x1 x2 x3 x4 x5 c tl ta tt tp = some (r, tl', tp') ∧ p_X7_why N x1 x2 x3 x4 x5 us up ue ut um w = some r := by
  obtain ⟨⟨m, hm⟩, th, st, sl, pu, we, -, -, -, ⟨d1, d2, d3⟩, -, -⟩ := hR
  unfold p_X6_why p_X6_questionError p_X7_why
  rcases s_err (N := N) us up ue ut um hm x1 x2 x3 x4 with ⟨e, e1, e2, h1, h2⟩ | ⟨u, l, o, g, hu, hl, hne, ho, hg, rfl, rfl, rfl, rfl, h1, h2⟩
  · refine ⟨-nI e, tl, tp, ?_, ?_⟩
    · rw [h1]; simp (disch := omega) only [q_lit, nI_add, pk_mul, k_let_eq, k_c1_some, k_c2_some, k_c3_some, k_c4_some, k_c5_some, k_c6_some, k_c7_some, k_c8_some, k_c9_some, k_c10_some, k_c11_some, k_c12_some, k_c13_some, k_c14_some, k_c15_some, k_c16_some, k_c17_some, k_ld_nI, k_st_nI, k_nz_nI, k_bit0, k_bit1, pk_rem, pk_sub, q_nn, q_np, q_pn, q_lnp, q_lpn, q_enp, q_epn, nI_leI, nI_ltI, nI_eq, if_pos, if_neg, ↓reduceIte]
    · rw [h2]; simp (disch := omega) only [q_lit, nI_add, pk_mul, k_let_eq, k_c1_some, k_c2_some, k_c3_some, k_c4_some, k_c5_some, k_c6_some, k_c7_some, k_c8_some, k_c9_some, k_c10_some, k_c11_some, k_c12_some, k_c13_some, k_c14_some, k_c15_some, k_c16_some, k_c17_some, k_ld_nI, k_st_nI, k_nz_nI, k_bit0, k_bit1, pk_rem, pk_sub, q_nn, q_np, q_pn, q_lnp, q_lpn, q_enp, q_epn, nI_leI, nI_ltI, nI_eq, if_pos, if_neg, ↓reduceIte]
  rw [h1, h2]
  rcases q_dec x5 0 1 with h5 | h5
  rotate_left
  · refine ⟨-nI 2, tl, tp, ?_, ?_⟩
    · rw [s_outside_f (show ¬ q_in x5 (0 : Int32).toInt (1 : Int32).toInt from h5)]; simp (disch := omega) only [q_lit, nI_add, pk_mul, k_let_eq, k_c1_some, k_c2_some, k_c3_some, k_c4_some, k_c5_some, k_c6_some, k_c7_some, k_c8_some, k_c9_some, k_c10_some, k_c11_some, k_c12_some, k_c13_some, k_c14_some, k_c15_some, k_c16_some, k_c17_some, k_ld_nI, k_st_nI, k_nz_nI, k_bit0, k_bit1, pk_rem, pk_sub, q_nn, q_np, q_pn, q_lnp, q_lpn, q_enp, q_epn, nI_leI, nI_ltI, nI_eq, if_pos, if_neg, ↓reduceIte]
    · rw [s_in_f (show ¬ q_in x5 (0 : Int32).toInt (1 : Int32).toInt from h5)]; simp (disch := omega) only [q_lit, nI_add, pk_mul, k_let_eq, k_c1_some, k_c2_some, k_c3_some, k_c4_some, k_c5_some, k_c6_some, k_c7_some, k_c8_some, k_c9_some, k_c10_some, k_c11_some, k_c12_some, k_c13_some, k_c14_some, k_c15_some, k_c16_some, k_c17_some, k_ld_nI, k_st_nI, k_nz_nI, k_bit0, k_bit1, pk_rem, pk_sub, q_nn, q_np, q_pn, q_lnp, q_lpn, q_enp, q_epn, nI_leI, nI_ltI, nI_eq, if_pos, if_neg, ↓reduceIte]
  rw [s_outside_t (show q_in x5 (0 : Int32).toInt (1 : Int32).toInt from h5), s_in_t (show q_in x5 (0 : Int32).toInt (1 : Int32).toInt from h5)]
  obtain ⟨j, -, hj, rfl⟩ := q_in_nat (a := 0) (b := 1) (by omega) h5
  obtain ⟨a, b, hP⟩ := PC_of hm hu hl
  obtain ⟨⟨hu8, hl8⟩, ⟨a1, a2, a3, a4⟩, ⟨b1, b2, b3, b4⟩, -, -⟩ := id hP
  obtain ⟨T0, T1⟩ := q_T a1 a2 b1 b2
  obtain ⟨tp', et, hQ⟩ := s_layQ hN tl ta tt tp hP ho hg
  have em := s_fb (σ := sl) (ta := ta) (tt := tt) hN hQ d1
  have ea := s_ag (σ := sl) hN us up ue ut um hP ho hg d1 d3
  cases hf : sp_ff (sp_bad (fun s => (g : Int) + sp_q w u l o a b s) (Nat.lcm a b) sl) (Nat.lcm a b) 0 with
  | none =>
    rw [hf] at em ea
    rcases (show j = 0 ∨ j = 1 by omega) with rfl | rfl
    · refine ⟨nI 0, nI (Nat.lcm a b), tp', ?_, ?_⟩
      · simp (disch := omega) only [q_lit, nI_add, pk_mul, k_let_eq, k_c1_some, k_c2_some, k_c3_some, k_c4_some, k_c5_some, k_c6_some, k_c7_some, k_c8_some, k_c9_some, k_c10_some, k_c11_some, k_c12_some, k_c13_some, k_c14_some, k_c15_some, k_c16_some, k_c17_some, k_ld_nI, k_st_nI, k_nz_nI, k_bit0, k_bit1, pk_rem, pk_sub, q_nn, q_np, q_pn, q_lnp, q_lpn, q_enp, q_epn, nI_leI, nI_ltI, nI_eq, if_pos, if_neg, ↓reduceIte, et, s_setting, d2, em, sp_ans]
      · simp (disch := omega) only [q_lit, nI_add, pk_mul, k_let_eq, k_c1_some, k_c2_some, k_c3_some, k_c4_some, k_c5_some, k_c6_some, k_c7_some, k_c8_some, k_c9_some, k_c10_some, k_c11_some, k_c12_some, k_c13_some, k_c14_some, k_c15_some, k_c16_some, k_c17_some, k_ld_nI, k_st_nI, k_nz_nI, k_bit0, k_bit1, pk_rem, pk_sub, q_nn, q_np, q_pn, q_lnp, q_lpn, q_enp, q_epn, nI_leI, nI_ltI, nI_eq, if_pos, if_neg, ↓reduceIte, ea, sp_ans2]
    · refine ⟨-nI 6, nI (Nat.lcm a b), tp', ?_, ?_⟩
      · simp (disch := omega) only [q_lit, nI_add, pk_mul, k_let_eq, k_c1_some, k_c2_some, k_c3_some, k_c4_some, k_c5_some, k_c6_some, k_c7_some, k_c8_some, k_c9_some, k_c10_some, k_c11_some, k_c12_some, k_c13_some, k_c14_some, k_c15_some, k_c16_some, k_c17_some, k_ld_nI, k_st_nI, k_nz_nI, k_bit0, k_bit1, pk_rem, pk_sub, q_nn, q_np, q_pn, q_lnp, q_lpn, q_enp, q_epn, nI_leI, nI_ltI, nI_eq, if_pos, if_neg, ↓reduceIte, et, s_setting, d2, em, sp_ans]
      · simp (disch := omega) only [q_lit, nI_add, pk_mul, k_let_eq, k_c1_some, k_c2_some, k_c3_some, k_c4_some, k_c5_some, k_c6_some, k_c7_some, k_c8_some, k_c9_some, k_c10_some, k_c11_some, k_c12_some, k_c13_some, k_c14_some, k_c15_some, k_c16_some, k_c17_some, k_ld_nI, k_st_nI, k_nz_nI, k_bit0, k_bit1, pk_rem, pk_sub, q_nn, q_np, q_pn, q_lnp, q_lpn, q_enp, q_epn, nI_leI, nI_ltI, nI_eq, if_pos, if_neg, ↓reduceIte, ea, sp_ans2]
  | some s =>
    have hs := sp_ff_some _ _ _ hf
    rw [hf] at em ea
    have ep := hQ.2.2 s (by omega)
    rcases (show j = 0 ∨ j = 1 by omega) with rfl | rfl
    · refine ⟨nI (if (g : Int) + sp_q w u l o a b s < 1 then 1 else 2), nI (Nat.lcm a b), tp', ?_, ?_⟩
      · simp (disch := omega) only [q_lit, nI_add, pk_mul, k_let_eq, k_c1_some, k_c2_some, k_c3_some, k_c4_some, k_c5_some, k_c6_some, k_c7_some, k_c8_some, k_c9_some, k_c10_some, k_c11_some, k_c12_some, k_c13_some, k_c14_some, k_c15_some, k_c16_some, k_c17_some, k_ld_nI, k_st_nI, k_nz_nI, k_bit0, k_bit1, pk_rem, pk_sub, q_nn, q_np, q_pn, q_lnp, q_lpn, q_enp, q_epn, nI_leI, nI_ltI, nI_eq, if_pos, if_neg, ↓reduceIte, et, s_setting, d2, em, sp_ans, s_press]
        by_cases hq : (g : Int) + sp_q w u l o a b s < 1
        · rw [if_pos hq, if_neg (by rw [Int32.le_iff_toInt_le, nI_toInt (by omega), ep.1]; dsimp only; omega)]
        · rw [if_neg hq, if_pos (by rw [Int32.le_iff_toInt_le, nI_toInt (by omega), ep.1]; dsimp only; omega)]
      · by_cases hq : (g : Int) + sp_q w u l o a b s < 1
        · simp (disch := omega) only [q_lit, nI_add, pk_mul, k_let_eq, k_c1_some, k_c2_some, k_c3_some, k_c4_some, k_c5_some, k_c6_some, k_c7_some, k_c8_some, k_c9_some, k_c10_some, k_c11_some, k_c12_some, k_c13_some, k_c14_some, k_c15_some, k_c16_some, k_c17_some, k_ld_nI, k_st_nI, k_nz_nI, k_bit0, k_bit1, pk_rem, pk_sub, q_nn, q_np, q_pn, q_lnp, q_lpn, q_enp, q_epn, nI_leI, nI_ltI, nI_eq, if_pos, if_neg, ↓reduceIte, ea, sp_ans2, hq]
          rw [show (4 * s + 1) % 4 = 1 by omega]
        · simp (disch := omega) only [q_lit, nI_add, pk_mul, k_let_eq, k_c1_some, k_c2_some, k_c3_some, k_c4_some, k_c5_some, k_c6_some, k_c7_some, k_c8_some, k_c9_some, k_c10_some, k_c11_some, k_c12_some, k_c13_some, k_c14_some, k_c15_some, k_c16_some, k_c17_some, k_ld_nI, k_st_nI, k_nz_nI, k_bit0, k_bit1, pk_rem, pk_sub, q_nn, q_np, q_pn, q_lnp, q_lpn, q_enp, q_epn, nI_leI, nI_ltI, nI_eq, if_pos, if_neg, ↓reduceIte, ea, sp_ans2, hq]
          rw [show (4 * s + 2) % 4 = 2 by omega]
    · refine ⟨nI s, nI (Nat.lcm a b), tp', ?_, ?_⟩
      · simp (disch := omega) only [q_lit, nI_add, pk_mul, k_let_eq, k_c1_some, k_c2_some, k_c3_some, k_c4_some, k_c5_some, k_c6_some, k_c7_some, k_c8_some, k_c9_some, k_c10_some, k_c11_some, k_c12_some, k_c13_some, k_c14_some, k_c15_some, k_c16_some, k_c17_some, k_ld_nI, k_st_nI, k_nz_nI, k_bit0, k_bit1, pk_rem, pk_sub, q_nn, q_np, q_pn, q_lnp, q_lpn, q_enp, q_epn, nI_leI, nI_ltI, nI_eq, if_pos, if_neg, ↓reduceIte, et, s_setting, d2, em, sp_ans]
      · by_cases hq : (g : Int) + sp_q w u l o a b s < 1
        · simp (disch := omega) only [q_lit, nI_add, pk_mul, k_let_eq, k_c1_some, k_c2_some, k_c3_some, k_c4_some, k_c5_some, k_c6_some, k_c7_some, k_c8_some, k_c9_some, k_c10_some, k_c11_some, k_c12_some, k_c13_some, k_c14_some, k_c15_some, k_c16_some, k_c17_some, k_ld_nI, k_st_nI, k_nz_nI, k_bit0, k_bit1, pk_rem, pk_sub, q_nn, q_np, q_pn, q_lnp, q_lpn, q_enp, q_epn, nI_leI, nI_ltI, nI_eq, if_pos, if_neg, ↓reduceIte, ea, sp_ans2, hq]
          rw [pk_div (by omega) (by omega) (by omega), show (4 * s + 1) / 4 = s by omega]
        · simp (disch := omega) only [q_lit, nI_add, pk_mul, k_let_eq, k_c1_some, k_c2_some, k_c3_some, k_c4_some, k_c5_some, k_c6_some, k_c7_some, k_c8_some, k_c9_some, k_c10_some, k_c11_some, k_c12_some, k_c13_some, k_c14_some, k_c15_some, k_c16_some, k_c17_some, k_ld_nI, k_st_nI, k_nz_nI, k_bit0, k_bit1, pk_rem, pk_sub, q_nn, q_np, q_pn, q_lnp, q_lpn, q_enp, q_epn, nI_leI, nI_ltI, nI_eq, if_pos, if_neg, ↓reduceIte, ea, sp_ans2, hq]
          rw [pk_div (by omega) (by omega) (by omega), show (4 * s + 2) / 4 = s by omega]
