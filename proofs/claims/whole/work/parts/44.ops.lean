-- the changes, with their histories: one answer, and related states
theorem e_set {N : Nat} {c w hs uq : Nat → Int32} {hf hl us : Int32} (hN : 20000 ≤ N) (hR : SR c w) (hH : HR hs hf hl uq us) (x1 x2 up ue ut um : Int32) :
    ∃ r c' hf' hl' hs' us' w' uq', p_X6_set N x1 x2 c hf hl hs = some (r, c', hf', hl', hs') ∧ p_X7_set N x1 x2 us up ue ut um w uq = some (r, us', w', uq') ∧ SR c' w' ∧ HR hs' hf' hl' uq' us' := by
  obtain ⟨hs', ep, hH', hrec⟩ := h_prep (c := c) hN hH
  unfold p_X6_set p_X7_set
  rw [ep]
  rcases o_set (N := N) hR x1 x2 with ⟨h1, h2⟩ | ⟨k, v, c', hk, rfl, hv, hwk, h1, h2, hR'⟩
  · refine ⟨-nI 2, c, hf, hl, hs', us, w, uq, ?_, ?_, hR, hH'⟩
    · rw [h1]; simp (disch := omega) only [q_lit, nI_add, pk_mul, k_let_eq, k_c1_some, k_c2_some, k_c3_some, k_c4_some, k_c5_some, k_c6_some, k_c7_some, k_c8_some, k_c9_some, k_c10_some, k_c11_some, k_c12_some, k_c13_some, k_c14_some, k_ld_nI, k_st_nI, k_nz_nI, k_bit0, k_bit1, pk_rem, pk_sub, q_nn, q_np, q_pn, q_lnp, q_lpn, q_enp, q_epn, nI_leI, nI_ltI, nI_eq, if_pos, if_neg, ↓reduceIte, s_rec_neg]
    · rw [h2]; simp (disch := omega) only [q_lit, nI_add, pk_mul, k_let_eq, k_c1_some, k_c2_some, k_c3_some, k_c4_some, k_c5_some, k_c6_some, k_c7_some, k_c8_some, k_c9_some, k_c10_some, k_c11_some, k_c12_some, k_c13_some, k_c14_some, k_ld_nI, k_st_nI, k_nz_nI, k_bit0, k_bit1, pk_rem, pk_sub, q_nn, q_np, q_pn, q_lnp, q_lpn, q_enp, q_epn, nI_leI, nI_ltI, nI_eq, if_pos, if_neg, ↓reduceIte]
  · obtain ⟨hf', hl', us', uq', e1, e2, hH2⟩ := hrec w up ue ut um hR
    refine ⟨nI v, c', hf', hl', hs', us', upd w k x2, uq', ?_, ?_, hR', hH2⟩
    · rw [h1]; simp (disch := omega) only [q_lit, nI_add, pk_mul, k_let_eq, k_c1_some, k_c2_some, k_c3_some, k_c4_some, k_c5_some, k_c6_some, k_c7_some, k_c8_some, k_c9_some, k_c10_some, k_c11_some, k_c12_some, k_c13_some, k_c14_some, k_ld_nI, k_st_nI, k_nz_nI, k_bit0, k_bit1, pk_rem, pk_sub, q_nn, q_np, q_pn, q_lnp, q_lpn, q_enp, q_epn, nI_leI, nI_ltI, nI_eq, if_pos, if_neg, ↓reduceIte, e1 v (by omega)]
    · rw [h2]; simp (disch := omega) only [q_lit, nI_add, pk_mul, k_let_eq, k_c1_some, k_c2_some, k_c3_some, k_c4_some, k_c5_some, k_c6_some, k_c7_some, k_c8_some, k_c9_some, k_c10_some, k_c11_some, k_c12_some, k_c13_some, k_c14_some, k_ld_nI, k_st_nI, k_nz_nI, k_bit0, k_bit1, pk_rem, pk_sub, q_nn, q_np, q_pn, q_lnp, q_lpn, q_enp, q_epn, nI_leI, nI_ltI, nI_eq, if_pos, if_neg, ↓reduceIte, e2, Nat.zero_add, hwk]
theorem e_card {N : Nat} {c w hs uq : Nat → Int32} {hf hl us : Int32} (hN : 20000 ≤ N) (hR : SR c w) (hH : HR hs hf hl uq us) (x1 x2 up ue ut um : Int32) :
    ∃ r c' hf' hl' hs' us' w' uq', p_X6_card N x1 x2 c hf hl hs = some (r, c', hf', hl', hs') ∧ p_X7_card N x1 x2 us up ue ut um w uq = some (r, us', w', uq') ∧ SR c' w' ∧ HR hs' hf' hl' uq' us' := by
  obtain ⟨hs', ep, hH', hrec⟩ := h_prep (c := c) hN hH
  unfold p_X6_card p_X7_card
  rw [ep]
  rcases o_card (N := N) hR x1 x2 with ⟨h1, h2⟩ | ⟨v, hv, hx1, hx2, hw4, h1, hR'⟩
  · refine ⟨-nI 2, c, hf, hl, hs', us, w, uq, ?_, ?_, hR, hH'⟩
    · rw [h1]; simp (disch := omega) only [q_lit, nI_add, pk_mul, k_let_eq, k_c1_some, k_c2_some, k_c3_some, k_c4_some, k_c5_some, k_c6_some, k_c7_some, k_c8_some, k_c9_some, k_c10_some, k_c11_some, k_c12_some, k_c13_some, k_c14_some, k_ld_nI, k_st_nI, k_nz_nI, k_bit0, k_bit1, pk_rem, pk_sub, q_nn, q_np, q_pn, q_lnp, q_lpn, q_enp, q_epn, nI_leI, nI_ltI, nI_eq, if_pos, if_neg, ↓reduceIte, s_rec_neg]
    · rcases q_dec x1 1 30 with hx1 | hx1
      · rcases h2 with h2 | h2
        · exact absurd hx1 h2
        · rw [s_in_t (show q_in x1 (1 : Int32).toInt (30 : Int32).toInt from hx1), s_in_f (show ¬ q_in x2 (0 : Int32).toInt (30 : Int32).toInt from h2)]; simp (disch := omega) only [q_lit, nI_add, pk_mul, k_let_eq, k_c1_some, k_c2_some, k_c3_some, k_c4_some, k_c5_some, k_c6_some, k_c7_some, k_c8_some, k_c9_some, k_c10_some, k_c11_some, k_c12_some, k_c13_some, k_c14_some, k_ld_nI, k_st_nI, k_nz_nI, k_bit0, k_bit1, pk_rem, pk_sub, q_nn, q_np, q_pn, q_lnp, q_lpn, q_enp, q_epn, nI_leI, nI_ltI, nI_eq, if_pos, if_neg, ↓reduceIte]
      · rw [s_in_f (show ¬ q_in x1 (1 : Int32).toInt (30 : Int32).toInt from hx1)]; simp (disch := omega) only [q_lit, nI_add, pk_mul, k_let_eq, k_c1_some, k_c2_some, k_c3_some, k_c4_some, k_c5_some, k_c6_some, k_c7_some, k_c8_some, k_c9_some, k_c10_some, k_c11_some, k_c12_some, k_c13_some, k_c14_some, k_ld_nI, k_st_nI, k_nz_nI, k_bit0, k_bit1, pk_rem, pk_sub, q_nn, q_np, q_pn, q_lnp, q_lpn, q_enp, q_epn, nI_leI, nI_ltI, nI_eq, if_pos, if_neg, ↓reduceIte]
  · obtain ⟨hf', hl', us', uq', e1, e2, hH2⟩ := hrec w up ue ut um hR
    refine ⟨nI v, _, hf', hl', hs', us', _, uq', ?_, ?_, hR', hH2⟩
    · rw [h1]; simp (disch := omega) only [q_lit, nI_add, pk_mul, k_let_eq, k_c1_some, k_c2_some, k_c3_some, k_c4_some, k_c5_some, k_c6_some, k_c7_some, k_c8_some, k_c9_some, k_c10_some, k_c11_some, k_c12_some, k_c13_some, k_c14_some, k_ld_nI, k_st_nI, k_nz_nI, k_bit0, k_bit1, pk_rem, pk_sub, q_nn, q_np, q_pn, q_lnp, q_lpn, q_enp, q_epn, nI_leI, nI_ltI, nI_eq, if_pos, if_neg, ↓reduceIte, e1 v (by omega)]
    · rw [s_in_t (show q_in x1 (1 : Int32).toInt (30 : Int32).toInt from hx1), s_in_t (show q_in x2 (0 : Int32).toInt (30 : Int32).toInt from hx2)]; simp (disch := omega) only [q_lit, nI_add, pk_mul, k_let_eq, k_c1_some, k_c2_some, k_c3_some, k_c4_some, k_c5_some, k_c6_some, k_c7_some, k_c8_some, k_c9_some, k_c10_some, k_c11_some, k_c12_some, k_c13_some, k_c14_some, k_ld_nI, k_st_nI, k_nz_nI, k_bit0, k_bit1, pk_rem, pk_sub, q_nn, q_np, q_pn, q_lnp, q_lpn, q_enp, q_epn, nI_leI, nI_ltI, nI_eq, if_pos, if_neg, ↓reduceIte, e2, hw4]
theorem e_file {N : Nat} {c w hs uq : Nat → Int32} {hf hl us : Int32} (hN : 20000 ≤ N) (hR : SR c w) (hH : HR hs hf hl uq us) (x1 x2 x3 up ue ut um : Int32) :
    ∃ r c' hf' hl' hs' us' w' uq', p_X6_file N x1 x2 x3 c hf hl hs = some (r, c', hf', hl', hs') ∧ p_X7_file N x1 x2 x3 us up ue ut um w uq = some (r, us', w', uq') ∧ SR c' w' ∧ HR hs' hf' hl' uq' us' := by
  obtain ⟨hs', ep, hH', hrec⟩ := h_prep (c := c) hN hH
  unfold p_X6_file p_X7_file
  rw [ep]
  rcases o_file (N := N) us up ue ut um hR x1 x2 x3 with ⟨e, e1, e2, h1, h2⟩ | ⟨r, k, v, c', w', hv, -, -, h1, h2, h3, hR', -, -⟩
  · refine ⟨-nI e, c, hf, hl, hs', us, w, uq, ?_, ?_, hR, hH'⟩
    · rw [h1]; simp (disch := omega) only [q_lit, nI_add, pk_mul, k_let_eq, k_c1_some, k_c2_some, k_c3_some, k_c4_some, k_c5_some, k_c6_some, k_c7_some, k_c8_some, k_c9_some, k_c10_some, k_c11_some, k_c12_some, k_c13_some, k_c14_some, k_ld_nI, k_st_nI, k_nz_nI, k_bit0, k_bit1, pk_rem, pk_sub, q_nn, q_np, q_pn, q_lnp, q_lpn, q_enp, q_epn, nI_leI, nI_ltI, nI_eq, if_pos, if_neg, ↓reduceIte, s_rec_neg]
    · rw [h2]; simp (disch := omega) only [q_lit, nI_add, pk_mul, k_let_eq, k_c1_some, k_c2_some, k_c3_some, k_c4_some, k_c5_some, k_c6_some, k_c7_some, k_c8_some, k_c9_some, k_c10_some, k_c11_some, k_c12_some, k_c13_some, k_c14_some, k_ld_nI, k_st_nI, k_nz_nI, k_bit0, k_bit1, pk_rem, pk_sub, q_nn, q_np, q_pn, q_lnp, q_lpn, q_enp, q_epn, nI_leI, nI_ltI, nI_eq, if_pos, if_neg, ↓reduceIte]
  · obtain ⟨hf', hl', us', uq', e1, e2, hH2⟩ := hrec w up ue ut um hR
    refine ⟨nI v, c', hf', hl', hs', us', w', uq', ?_, ?_, hR', hH2⟩
    · rw [h1]; simp (disch := omega) only [q_lit, nI_add, pk_mul, k_let_eq, k_c1_some, k_c2_some, k_c3_some, k_c4_some, k_c5_some, k_c6_some, k_c7_some, k_c8_some, k_c9_some, k_c10_some, k_c11_some, k_c12_some, k_c13_some, k_c14_some, k_ld_nI, k_st_nI, k_nz_nI, k_bit0, k_bit1, pk_rem, pk_sub, q_nn, q_np, q_pn, q_lnp, q_lpn, q_enp, q_epn, nI_leI, nI_ltI, nI_eq, if_pos, if_neg, ↓reduceIte, e1 v (by omega)]
    · rw [h2]; simp (disch := omega) only [q_lit, nI_add, pk_mul, k_let_eq, k_c1_some, k_c2_some, k_c3_some, k_c4_some, k_c5_some, k_c6_some, k_c7_some, k_c8_some, k_c9_some, k_c10_some, k_c11_some, k_c12_some, k_c13_some, k_c14_some, k_ld_nI, k_st_nI, k_nz_nI, k_bit0, k_bit1, pk_rem, pk_sub, q_nn, q_np, q_pn, q_lnp, q_lpn, q_enp, q_epn, nI_leI, nI_ltI, nI_eq, if_pos, if_neg, ↓reduceIte, e2, h3 us']
theorem e_melt {N : Nat} {c w hs uq : Nat → Int32} {hf hl us : Int32} (hN : 20000 ≤ N) (hR : SR c w) (hH : HR hs hf hl uq us) (x1 up ue ut um : Int32) :
    ∃ r c' hf' hl' hs' us' w' uq', p_X6_melt N x1 c hf hl hs = some (r, c', hf', hl', hs') ∧ p_X7_melt N x1 us up ue ut um w uq = some (r, us', w', uq') ∧ SR c' w' ∧ HR hs' hf' hl' uq' us' := by
  obtain ⟨hs', ep, hH', hrec⟩ := h_prep (c := c) hN hH
  unfold p_X6_melt p_X7_melt
  rw [ep]
  rcases o_melt (N := N) hN us up ue ut um hR x1 with ⟨h1, h2⟩ | ⟨v, c', w', hv, h1, h2, h3, hR'⟩
  · refine ⟨-nI 1, c, hf, hl, hs', us, w, uq, ?_, ?_, hR, hH'⟩
    · rw [h1]; simp (disch := omega) only [q_lit, nI_add, pk_mul, k_let_eq, k_c1_some, k_c2_some, k_c3_some, k_c4_some, k_c5_some, k_c6_some, k_c7_some, k_c8_some, k_c9_some, k_c10_some, k_c11_some, k_c12_some, k_c13_some, k_c14_some, k_ld_nI, k_st_nI, k_nz_nI, k_bit0, k_bit1, pk_rem, pk_sub, q_nn, q_np, q_pn, q_lnp, q_lpn, q_enp, q_epn, nI_leI, nI_ltI, nI_eq, if_pos, if_neg, ↓reduceIte, s_rec_neg]
    · rw [h2]; simp (disch := omega) only [q_lit, nI_add, pk_mul, k_let_eq, k_c1_some, k_c2_some, k_c3_some, k_c4_some, k_c5_some, k_c6_some, k_c7_some, k_c8_some, k_c9_some, k_c10_some, k_c11_some, k_c12_some, k_c13_some, k_c14_some, k_ld_nI, k_st_nI, k_nz_nI, k_bit0, k_bit1, pk_rem, pk_sub, q_nn, q_np, q_pn, q_lnp, q_lpn, q_enp, q_epn, nI_leI, nI_ltI, nI_eq, if_pos, if_neg, ↓reduceIte]
  · obtain ⟨hf', hl', us', uq', e1, e2, hH2⟩ := hrec w up ue ut um hR
    refine ⟨nI v, c', hf', hl', hs', us', w', uq', ?_, ?_, hR', hH2⟩
    · rw [h1]; simp (disch := omega) only [q_lit, nI_add, pk_mul, k_let_eq, k_c1_some, k_c2_some, k_c3_some, k_c4_some, k_c5_some, k_c6_some, k_c7_some, k_c8_some, k_c9_some, k_c10_some, k_c11_some, k_c12_some, k_c13_some, k_c14_some, k_ld_nI, k_st_nI, k_nz_nI, k_bit0, k_bit1, pk_rem, pk_sub, q_nn, q_np, q_pn, q_lnp, q_lpn, q_enp, q_epn, nI_leI, nI_ltI, nI_eq, if_pos, if_neg, ↓reduceIte, e1 v (by omega)]
    · rw [h2]; simp (disch := omega) only [q_lit, nI_add, pk_mul, k_let_eq, k_c1_some, k_c2_some, k_c3_some, k_c4_some, k_c5_some, k_c6_some, k_c7_some, k_c8_some, k_c9_some, k_c10_some, k_c11_some, k_c12_some, k_c13_some, k_c14_some, k_ld_nI, k_st_nI, k_nz_nI, k_bit0, k_bit1, pk_rem, pk_sub, q_nn, q_np, q_pn, q_lnp, q_lpn, q_enp, q_epn, nI_leI, nI_ltI, nI_eq, if_pos, if_neg, ↓reduceIte, e2, h3 us']
theorem e_run {N : Nat} {c w hs uq : Nat → Int32} {hf hl us : Int32} (hN : 20000 ≤ N) (hR : SR c w) (hH : HR hs hf hl uq us) (x1 x2 x3 x4 x5 x6 up ue ut um tl ta tt : Int32) (tp : Nat → Int32) :
    ∃ r c' hf' hl' hs' us' ue' w' uq' tl' ta' tt' tp', p_X6_run N x1 x2 x3 x4 x5 x6 c hf hl hs tl ta tt tp = some (r, c', hf', hl', hs', tl', ta', tt', tp') ∧ p_X7_run N x1 x2 x3 x4 x5 x6 us up ue ut um w uq = some (r, us', ue', w', uq') ∧ SR c' w' ∧ HR hs' hf' hl' uq' us' := by
  obtain ⟨hs', ep, hH', hrec⟩ := h_prep (c := c) hN hH
  unfold p_X6_run p_X7_run
  rw [ep]
  rcases o_run (N := N) hN us up ue ut um hR x1 x2 x3 x4 x5 x6 tl ta tt tp with ⟨e, tl', ta', tt', tp', e1, e2, h1, h2⟩ | ⟨v, c', w', tl', ta', tt', tp', hv, h1, h2, h3, hR'⟩
  · refine ⟨-nI e, c, hf, hl, hs', us, ue, w, uq, tl', ta', tt', tp', ?_, ?_, hR, hH'⟩
    · rw [h1]; simp (disch := omega) only [q_lit, nI_add, pk_mul, k_let_eq, k_c1_some, k_c2_some, k_c3_some, k_c4_some, k_c5_some, k_c6_some, k_c7_some, k_c8_some, k_c9_some, k_c10_some, k_c11_some, k_c12_some, k_c13_some, k_c14_some, k_ld_nI, k_st_nI, k_nz_nI, k_bit0, k_bit1, pk_rem, pk_sub, q_nn, q_np, q_pn, q_lnp, q_lpn, q_enp, q_epn, nI_leI, nI_ltI, nI_eq, if_pos, if_neg, ↓reduceIte, s_rec_neg]
    · rw [h2]; simp (disch := omega) only [q_lit, nI_add, pk_mul, k_let_eq, k_c1_some, k_c2_some, k_c3_some, k_c4_some, k_c5_some, k_c6_some, k_c7_some, k_c8_some, k_c9_some, k_c10_some, k_c11_some, k_c12_some, k_c13_some, k_c14_some, k_ld_nI, k_st_nI, k_nz_nI, k_bit0, k_bit1, pk_rem, pk_sub, q_nn, q_np, q_pn, q_lnp, q_lpn, q_enp, q_epn, nI_leI, nI_ltI, nI_eq, if_pos, if_neg, ↓reduceIte]
  · obtain ⟨hf', hl', us', uq', e1, e2, hH2⟩ := hrec w up ue ut um hR
    obtain ⟨ue', h3⟩ := h3 us'
    refine ⟨nI v, c', hf', hl', hs', us', ue', w', uq', tl', ta', tt', tp', ?_, ?_, hR', hH2⟩
    · rw [h1]; simp (disch := omega) only [q_lit, nI_add, pk_mul, k_let_eq, k_c1_some, k_c2_some, k_c3_some, k_c4_some, k_c5_some, k_c6_some, k_c7_some, k_c8_some, k_c9_some, k_c10_some, k_c11_some, k_c12_some, k_c13_some, k_c14_some, k_ld_nI, k_st_nI, k_nz_nI, k_bit0, k_bit1, pk_rem, pk_sub, q_nn, q_np, q_pn, q_lnp, q_lpn, q_enp, q_epn, nI_leI, nI_ltI, nI_eq, if_pos, if_neg, ↓reduceIte, e1 v (by omega)]
    · rw [h2]; simp (disch := omega) only [q_lit, nI_add, pk_mul, k_let_eq, k_c1_some, k_c2_some, k_c3_some, k_c4_some, k_c5_some, k_c6_some, k_c7_some, k_c8_some, k_c9_some, k_c10_some, k_c11_some, k_c12_some, k_c13_some, k_c14_some, k_ld_nI, k_st_nI, k_nz_nI, k_bit0, k_bit1, pk_rem, pk_sub, q_nn, q_np, q_pn, q_lnp, q_lpn, q_enp, q_epn, nI_leI, nI_ltI, nI_eq, if_pos, if_neg, ↓reduceIte, e2, h3]
theorem s_rr_fill {N m t : Nat} {v : Int32} (us up ue ut um : Int32) (w uq : Nat → Int32) (hm : m < 8) (ht : t ≤ 24) : ∀ n k : Nat, k ≤ t → t - k < n → f_X7_roller_47 N n (nI t) v (nI m) (nI k) us up ue ut um (sp_fill w (12 + 27 * m) k (fun _ => v)) uq = some (nI m, us, sp_fill w (12 + 27 * m) t (fun _ => v), uq) := by
  intro n
  induction n with
  | zero => intro k h1 h2; omega
  | succ n ih =>
    intro k h1 h2
    show b_X7_roller_47 N (f_X7_roller_47 N n) (nI t) v (nI m) (nI k) us up ue ut um (sp_fill w (12 + 27 * m) k (fun _ => v)) uq = _
    unfold b_X7_roller_47
    simp only [q_lit, pk_mul, nI_add, k_let_eq]
    by_cases hk : k = t
    · rw [if_pos (by rw [nI_leI (by omega) (by omega)]; omega), hk]
    · rw [if_neg (by rw [nI_leI (by omega) (by omega)]; omega), k_st_nI (by omega) (by omega), show 9 + 27 * m + 3 + k = 12 + 27 * m + k by omega, sp_fill_step w (12 + 27 * m) k (fun _ => v)]
      exact ih (k + 1) (by omega) (by omega)
theorem e_roller {N : Nat} {c w hs uq : Nat → Int32} {hf hl us : Int32} (hN : 20000 ≤ N) (hR : SR c w) (hH : HR hs hf hl uq us) (x1 x2 up ue ut um : Int32) :
    ∃ r c' hf' hl' hs' us' w' uq', p_X6_roller N x1 x2 c hf hl hs = some (r, c', hf', hl', hs') ∧ p_X7_roller N x1 x2 us up ue ut um w uq = some (r, us', w', uq') ∧ SR c' w' ∧ HR hs' hf' hl' uq' us' := by
  obtain ⟨hs', ep, hH', hrec⟩ := h_prep (c := c) hN hH
  obtain ⟨⟨m, h8, h0, h3, hr⟩, -⟩ := id hR
  unfold p_X6_roller p_X7_roller p_X7_isHeight
  rw [ep]
  rcases q_dec x1 2 24 with hx1 | hx1
  rotate_left
  · refine ⟨-nI 2, c, hf, hl, hs', us, w, uq, ?_, ?_, hR, hH'⟩
    · unfold p_X3_addRoller; rw [s_outside_f (show ¬ q_in x1 (2 : Int32).toInt (24 : Int32).toInt from hx1)]; simp (disch := omega) only [q_lit, nI_add, pk_mul, k_let_eq, k_c1_some, k_c2_some, k_c3_some, k_c4_some, k_c5_some, k_c6_some, k_c7_some, k_c8_some, k_c9_some, k_c10_some, k_c11_some, k_c12_some, k_c13_some, k_c14_some, k_ld_nI, k_st_nI, k_nz_nI, k_bit0, k_bit1, pk_rem, pk_sub, q_nn, q_np, q_pn, q_lnp, q_lpn, q_enp, q_epn, nI_leI, nI_ltI, nI_eq, if_pos, if_neg, ↓reduceIte, s_rec_neg]
    · rw [s_in_f (show ¬ q_in x1 (2 : Int32).toInt (24 : Int32).toInt from hx1)]; simp (disch := omega) only [q_lit, nI_add, pk_mul, k_let_eq, k_c1_some, k_c2_some, k_c3_some, k_c4_some, k_c5_some, k_c6_some, k_c7_some, k_c8_some, k_c9_some, k_c10_some, k_c11_some, k_c12_some, k_c13_some, k_c14_some, k_ld_nI, k_st_nI, k_nz_nI, k_bit0, k_bit1, pk_rem, pk_sub, q_nn, q_np, q_pn, q_lnp, q_lpn, q_enp, q_epn, nI_leI, nI_ltI, nI_eq, if_pos, if_neg, ↓reduceIte]
  rw [s_in_t (show q_in x1 (2 : Int32).toInt (24 : Int32).toInt from hx1)]
  rcases q_dec x2 (-9) 9 with hx2 | hx2
  rotate_left
  · refine ⟨-nI 2, c, hf, hl, hs', us, w, uq, ?_, ?_, hR, hH'⟩
    · unfold p_X3_addRoller; rw [s_outside_t (show q_in x1 (2 : Int32).toInt (24 : Int32).toInt from hx1), s_outside_f (show ¬ q_in x2 (-9 : Int32).toInt (9 : Int32).toInt from hx2)]; simp (disch := omega) only [q_lit, nI_add, pk_mul, k_let_eq, k_c1_some, k_c2_some, k_c3_some, k_c4_some, k_c5_some, k_c6_some, k_c7_some, k_c8_some, k_c9_some, k_c10_some, k_c11_some, k_c12_some, k_c13_some, k_c14_some, k_ld_nI, k_st_nI, k_nz_nI, k_bit0, k_bit1, pk_rem, pk_sub, q_nn, q_np, q_pn, q_lnp, q_lpn, q_enp, q_epn, nI_leI, nI_ltI, nI_eq, if_pos, if_neg, ↓reduceIte, s_rec_neg]
    · rw [s_in_f (show ¬ q_in x2 (-9 : Int32).toInt (9 : Int32).toInt from hx2)]; simp (disch := omega) only [q_lit, nI_add, pk_mul, k_let_eq, k_c1_some, k_c2_some, k_c3_some, k_c4_some, k_c5_some, k_c6_some, k_c7_some, k_c8_some, k_c9_some, k_c10_some, k_c11_some, k_c12_some, k_c13_some, k_c14_some, k_ld_nI, k_st_nI, k_nz_nI, k_bit0, k_bit1, pk_rem, pk_sub, q_nn, q_np, q_pn, q_lnp, q_lpn, q_enp, q_epn, nI_leI, nI_ltI, nI_eq, if_pos, if_neg, ↓reduceIte]
  rw [s_in_t (show q_in x2 (-9 : Int32).toInt (9 : Int32).toInt from hx2)]
  by_cases hm : m = 8
  · subst hm
    refine ⟨-nI 4, c, hf, hl, hs', us, w, uq, ?_, ?_, hR, hH'⟩
    · unfold p_X3_addRoller; rw [s_outside_t (show q_in x1 (2 : Int32).toInt (24 : Int32).toInt from hx1), s_outside_t (show q_in x2 (-9 : Int32).toInt (9 : Int32).toInt from hx2)]; simp (disch := omega) only [q_lit, nI_add, pk_mul, k_let_eq, k_c1_some, k_c2_some, k_c3_some, k_c4_some, k_c5_some, k_c6_some, k_c7_some, k_c8_some, k_c9_some, k_c10_some, k_c11_some, k_c12_some, k_c13_some, k_c14_some, k_ld_nI, k_st_nI, k_nz_nI, k_bit0, k_bit1, pk_rem, pk_sub, q_nn, q_np, q_pn, q_lnp, q_lpn, q_enp, q_epn, nI_leI, nI_ltI, nI_eq, if_pos, if_neg, ↓reduceIte, s_cell, h0, s_rec_neg]
    · simp (disch := omega) only [q_lit, nI_add, pk_mul, k_let_eq, k_c1_some, k_c2_some, k_c3_some, k_c4_some, k_c5_some, k_c6_some, k_c7_some, k_c8_some, k_c9_some, k_c10_some, k_c11_some, k_c12_some, k_c13_some, k_c14_some, k_ld_nI, k_st_nI, k_nz_nI, k_bit0, k_bit1, pk_rem, pk_sub, q_nn, q_np, q_pn, q_lnp, q_lpn, q_enp, q_epn, nI_leI, nI_ltI, nI_eq, if_pos, if_neg, ↓reduceIte, h3]
  · obtain ⟨t, ht1, ht2, rfl⟩ := q_in_nat (a := 2) (b := 24) (by omega) hx1
    obtain ⟨hf', hl', us', uq', e1, e2, hH2⟩ := hrec w up ue ut um hR
    have el := s_rr_fill (N := N) (m := m) (t := t) (v := x2) us' up ue ut um (sp_rnew w m (nI t)) uq' (by omega) ht2 N 0 (by omega) (by omega)
    rw [sp_fill_0] at el
    refine ⟨nI m, upd (sp_fill (sp_new c m t) (12 + 27 * m) t (fun _ => x2)) 0 (nI (m + 1)), hf', hl', hs', us', sp_fill (sp_rnew w m (nI t)) (12 + 27 * m) t (fun _ => x2), uq', ?_, ?_, ?_, hH2⟩
    · rw [s_add hN (by omega) ht1 ht2 hx2 h0]; simp (disch := omega) only [q_lit, nI_add, pk_mul, k_let_eq, k_c1_some, k_c2_some, k_c3_some, k_c4_some, k_c5_some, k_c6_some, k_c7_some, k_c8_some, k_c9_some, k_c10_some, k_c11_some, k_c12_some, k_c13_some, k_c14_some, k_ld_nI, k_st_nI, k_nz_nI, k_bit0, k_bit1, pk_rem, pk_sub, q_nn, q_np, q_pn, q_lnp, q_lpn, q_enp, q_epn, nI_leI, nI_ltI, nI_eq, if_pos, if_neg, ↓reduceIte, e1 m (by omega)]
    · simp (disch := omega) only [q_lit, nI_add, pk_mul, k_let_eq, k_c1_some, k_c2_some, k_c3_some, k_c4_some, k_c5_some, k_c6_some, k_c7_some, k_c8_some, k_c9_some, k_c10_some, k_c11_some, k_c12_some, k_c13_some, k_c14_some, k_ld_nI, k_st_nI, k_nz_nI, k_bit0, k_bit1, pk_rem, pk_sub, q_nn, q_np, q_pn, q_lnp, q_lpn, q_enp, q_epn, nI_leI, nI_ltI, nI_eq, if_pos, if_neg, ↓reduceIte, h3, e2, s_comes hN us' up ue ut um (show m < 8 by omega) h3]
      exact el
    · refine SR_come hR h0 (by omega) ht1 ht2 (fun k hk => ⟨rfl, hx2⟩) (q_us _ _ _) (fun i hi hi2 => ?_) (fun k hk => ?_)
      · rw [q_un hi, sp_fill_out (by omega)]
      · rw [q_un (by omega), sp_fill_in hk]
-- undo
theorem e_undo {N : Nat} {c w hs uq : Nat → Int32} {hf hl us : Int32} (hN : 20000 ≤ N) (hR : SR c w) (hH : HR hs hf hl uq us) (up ue ut um : Int32) :
    ∃ r c' hf' hl' us' w', p_X6_undo N c hf hl hs = some (r, c', hf', hl') ∧ p_X7_undo N us up ue ut um w uq = some (r, us', w') ∧ SR c' w' ∧ HR hs hf' hl' uq us' := by
  obtain ⟨f, k, hf7, hk6, rfl, rfl, rfl, hj⟩ := id hH
  unfold p_X6_undo p_X0_stepBack p_X7_undo
  by_cases hk : k = 0
  · subst hk
    refine ⟨-nI 5, c, nI f, nI 0, nI 0, w, ?_, ?_, hR, hH⟩ <;> simp (disch := omega) only [q_lit, nI_add, pk_mul, k_let_eq, k_c1_some, k_c2_some, k_c3_some, k_c4_some, k_c5_some, k_c6_some, k_c7_some, k_c8_some, k_c9_some, k_c10_some, k_c11_some, k_c12_some, k_c13_some, k_c14_some, k_ld_nI, k_st_nI, k_nz_nI, k_bit0, k_bit1, pk_rem, pk_sub, q_nn, q_np, q_pn, q_lnp, q_lpn, q_enp, q_epn, nI_leI, nI_ltI, nI_eq, if_pos, if_neg, ↓reduceIte]
  · have e : va_cpy hs c ((f + 6) % 7 * 225) 0 225 = va_cpy hs c ((if f = 0 then 6 else f - 1) * 225) 0 225 := by
      rw [show (f + 6) % 7 = if f = 0 then 6 else f - 1 by split <;> omega]
    refine ⟨nI (k - 1), va_cpy hs c ((f + 6) % 7 * 225) 0 225, nI (if f = 0 then 6 else f - 1), nI (k - 1), nI (k - 1), va_cpy uq w (225 * (k - 1)) 0 225, ?_, ?_, ?_, ?_⟩
    · rw [e]
      by_cases hf0 : f = 0
      · simp (disch := omega) only [q_lit, nI_add, pk_mul, k_let_eq, k_c1_some, k_c2_some, k_c3_some, k_c4_some, k_c5_some, k_c6_some, k_c7_some, k_c8_some, k_c9_some, k_c10_some, k_c11_some, k_c12_some, k_c13_some, k_c14_some, k_ld_nI, k_st_nI, k_nz_nI, k_bit0, k_bit1, pk_rem, pk_sub, q_nn, q_np, q_pn, q_lnp, q_lpn, q_enp, q_epn, nI_leI, nI_ltI, nI_eq, if_pos, if_neg, ↓reduceIte, s_copyFromH, hf0]
      · simp (disch := omega) only [q_lit, nI_add, pk_mul, k_let_eq, k_c1_some, k_c2_some, k_c3_some, k_c4_some, k_c5_some, k_c6_some, k_c7_some, k_c8_some, k_c9_some, k_c10_some, k_c11_some, k_c12_some, k_c13_some, k_c14_some, k_ld_nI, k_st_nI, k_nz_nI, k_bit0, k_bit1, pk_rem, pk_sub, q_nn, q_np, q_pn, q_lnp, q_lpn, q_enp, q_epn, nI_leI, nI_ltI, nI_eq, if_pos, if_neg, ↓reduceIte, s_copyFromH, hf0]
    · simp (disch := omega) only [q_lit, nI_add, pk_mul, k_let_eq, k_c1_some, k_c2_some, k_c3_some, k_c4_some, k_c5_some, k_c6_some, k_c7_some, k_c8_some, k_c9_some, k_c10_some, k_c11_some, k_c12_some, k_c13_some, k_c14_some, k_ld_nI, k_st_nI, k_nz_nI, k_bit0, k_bit1, pk_rem, pk_sub, q_nn, q_np, q_pn, q_lnp, q_lpn, q_enp, q_epn, nI_leI, nI_ltI, nI_eq, if_pos, if_neg, ↓reduceIte, s_layQN hN]
    · refine SR_congr (fun i hi => ?_) (fun i hi => ?_) (hj 0 (by omega))
      · have := cpy_at (f := hs) (g := c) (a := (f + 6) % 7 * 225) (b := 0) hi
        rw [Nat.zero_add] at this
        rw [this]; rfl
      · have := cpy_at (f := uq) (g := w) (a := 225 * (k - 1)) (b := 0) hi
        rw [Nat.zero_add] at this
        rw [this]; rfl
    · refine ⟨if f = 0 then 6 else f - 1, k - 1, by split <;> omega, by omega, rfl, rfl, rfl, fun j hjk => ?_⟩
      have h := hj (j + 1) (by omega)
      rw [show (f + 6 - (j + 1)) % 7 = ((if f = 0 then 6 else f - 1) + 6 - j) % 7 by split <;> omega, show k - 1 - (j + 1) = k - 1 - 1 - j by omega] at h
      exact h
-- slots
def SL (sf : Int32) (ss ul uh : Nat → Int32) : Prop := ∃ b0 b1 : Nat, b0 ≤ 1 ∧ b1 ≤ 1 ∧ sf = nI (b0 + 2 * b1) ∧ uh 0 = nI b0 ∧ uh 1 = nI b1 ∧ (b0 = 1 → SR (fun i => ss i) (fun i => ul i)) ∧ (b1 = 1 → SR (fun i => ss (225 + i)) (fun i => ul (225 + i)))
theorem e_save {N : Nat} {c w ss ul uh : Nat → Int32} {sf : Int32} (hN : 20000 ≤ N) (hR : SR c w) (hL : SL sf ss ul uh) (x1 us up ue ut um : Int32) :
    ∃ r sf' ss' ul' uh', p_X6_save N x1 c sf ss = some (r, sf', ss') ∧ p_X7_save N x1 us up ue ut um w ul uh = some (r, ul', uh') ∧ SL sf' ss' ul' uh' := by
  obtain ⟨⟨m, h8, h0, h3, hr⟩, -⟩ := id hR
  obtain ⟨b0, b1, hb0, hb1, rfl, hu0, hu1, hs0, hs1⟩ := id hL
  unfold p_X6_save p_X4_keep p_X7_save
  rcases q_dec x1 0 1 with h1 | h1
  rotate_left
  · refine ⟨-nI 2, nI (b0 + 2 * b1), ss, ul, uh, ?_, ?_, hL⟩
    · rw [s_outside_f (show ¬ q_in x1 (0 : Int32).toInt (1 : Int32).toInt from h1)]; simp (disch := omega) only [q_lit, nI_add, pk_mul, k_let_eq, k_c1_some, k_c2_some, k_c3_some, k_c4_some, k_c5_some, k_c6_some, k_c7_some, k_c8_some, k_c9_some, k_c10_some, k_c11_some, k_c12_some, k_c13_some, k_c14_some, k_ld_nI, k_st_nI, k_nz_nI, k_bit0, k_bit1, pk_rem, pk_sub, q_nn, q_np, q_pn, q_lnp, q_lpn, q_enp, q_epn, nI_leI, nI_ltI, nI_eq, if_pos, if_neg, ↓reduceIte]
    · rw [s_in_f (show ¬ q_in x1 (0 : Int32).toInt (1 : Int32).toInt from h1)]; simp (disch := omega) only [q_lit, nI_add, pk_mul, k_let_eq, k_c1_some, k_c2_some, k_c3_some, k_c4_some, k_c5_some, k_c6_some, k_c7_some, k_c8_some, k_c9_some, k_c10_some, k_c11_some, k_c12_some, k_c13_some, k_c14_some, k_ld_nI, k_st_nI, k_nz_nI, k_bit0, k_bit1, pk_rem, pk_sub, q_nn, q_np, q_pn, q_lnp, q_lpn, q_enp, q_epn, nI_leI, nI_ltI, nI_eq, if_pos, if_neg, ↓reduceIte]
  rw [s_outside_t (show q_in x1 (0 : Int32).toInt (1 : Int32).toInt from h1), s_in_t (show q_in x1 (0 : Int32).toInt (1 : Int32).toInt from h1)]
  obtain ⟨j, -, hj, rfl⟩ := q_in_nat (a := 0) (b := 1) (by omega) h1
  rcases (show j = 0 ∨ j = 1 by omega) with rfl | rfl
  · have ebit : (nI (b0 + 2 * b1) ||| (nI 1 <<< (nI 0 &&& nI 31))) = nI (1 + 2 * b1) := by
      rcases (show b0 = 0 ∨ b0 = 1 by omega) with rfl | rfl <;> rcases (show b1 = 0 ∨ b1 = 1 by omega) with rfl | rfl <;> decide
    refine ⟨nI m, nI (1 + 2 * b1), va_cpy c ss 0 (0 * 225) 225, va_cpy w ul 0 (225 * 0) 225, upd uh 0 (nI 1), ?_, ?_, 1, b1, by omega, hb1, rfl, q_us _ _ _, by rw [q_un (by omega)]; exact hu1, fun _ => ?_, fun h => ?_⟩
    · simp (disch := omega) only [q_lit, nI_add, pk_mul, k_let_eq, k_c1_some, k_c2_some, k_c3_some, k_c4_some, k_c5_some, k_c6_some, k_c7_some, k_c8_some, k_c9_some, k_c10_some, k_c11_some, k_c12_some, k_c13_some, k_c14_some, k_ld_nI, k_st_nI, k_nz_nI, k_bit0, k_bit1, pk_rem, pk_sub, q_nn, q_np, q_pn, q_lnp, q_lpn, q_enp, q_epn, nI_leI, nI_ltI, nI_eq, if_pos, if_neg, ↓reduceIte, s_copyToL, s_cell, h0, ebit]
    · simp (disch := omega) only [q_lit, nI_add, pk_mul, k_let_eq, k_c1_some, k_c2_some, k_c3_some, k_c4_some, k_c5_some, k_c6_some, k_c7_some, k_c8_some, k_c9_some, k_c10_some, k_c11_some, k_c12_some, k_c13_some, k_c14_some, k_ld_nI, k_st_nI, k_nz_nI, k_bit0, k_bit1, pk_rem, pk_sub, q_nn, q_np, q_pn, q_lnp, q_lpn, q_enp, q_epn, nI_leI, nI_ltI, nI_eq, if_pos, if_neg, ↓reduceIte, s_layNS hN, h3, q_b1]
    · refine SR_congr (fun i hi => ?_) (fun i hi => ?_) hR
      · have := cpy_at (f := c) (g := ss) (a := 0) (b := 0 * 225) hi
        rw [Nat.zero_mul, Nat.zero_add] at this
        rw [Nat.zero_mul]; exact this
      · have := cpy_at (f := w) (g := ul) (a := 0) (b := 225 * 0) hi
        rw [Nat.mul_zero, Nat.zero_add] at this
        rw [Nat.mul_zero]; exact this
    · refine SR_congr (fun i hi => ?_) (fun i hi => ?_) (hs1 h)
      · exact cpy_out (by omega)
      · exact cpy_out (by omega)
  · have ebit : (nI (b0 + 2 * b1) ||| (nI 1 <<< (nI 1 &&& nI 31))) = nI (b0 + 2 * 1) := by
      rcases (show b0 = 0 ∨ b0 = 1 by omega) with rfl | rfl <;> rcases (show b1 = 0 ∨ b1 = 1 by omega) with rfl | rfl <;> decide
    refine ⟨nI m, nI (b0 + 2 * 1), va_cpy c ss 0 (1 * 225) 225, va_cpy w ul 0 (225 * 1) 225, upd uh 1 (nI 1), ?_, ?_, b0, 1, hb0, by omega, rfl, by rw [q_un (by omega)]; exact hu0, q_us _ _ _, fun h => ?_, fun _ => ?_⟩
    · simp (disch := omega) only [q_lit, nI_add, pk_mul, k_let_eq, k_c1_some, k_c2_some, k_c3_some, k_c4_some, k_c5_some, k_c6_some, k_c7_some, k_c8_some, k_c9_some, k_c10_some, k_c11_some, k_c12_some, k_c13_some, k_c14_some, k_ld_nI, k_st_nI, k_nz_nI, k_bit0, k_bit1, pk_rem, pk_sub, q_nn, q_np, q_pn, q_lnp, q_lpn, q_enp, q_epn, nI_leI, nI_ltI, nI_eq, if_pos, if_neg, ↓reduceIte, s_copyToL, s_cell, h0, ebit]
    · simp (disch := omega) only [q_lit, nI_add, pk_mul, k_let_eq, k_c1_some, k_c2_some, k_c3_some, k_c4_some, k_c5_some, k_c6_some, k_c7_some, k_c8_some, k_c9_some, k_c10_some, k_c11_some, k_c12_some, k_c13_some, k_c14_some, k_ld_nI, k_st_nI, k_nz_nI, k_bit0, k_bit1, pk_rem, pk_sub, q_nn, q_np, q_pn, q_lnp, q_lpn, q_enp, q_epn, nI_leI, nI_ltI, nI_eq, if_pos, if_neg, ↓reduceIte, s_layNS hN, h3, q_b1]
    · refine SR_congr (fun i hi => ?_) (fun i hi => ?_) (hs0 h)
      · exact cpy_out (by omega)
      · exact cpy_out (by omega)
    · refine SR_congr (fun i hi => ?_) (fun i hi => ?_) hR
      · have := cpy_at (f := c) (g := ss) (a := 0) (b := 1 * 225) hi
        rw [Nat.zero_add] at this
        exact this
      · have := cpy_at (f := w) (g := ul) (a := 0) (b := 225 * 1) hi
        rw [Nat.zero_add] at this
        exact this
theorem e_restore {N : Nat} {c w hs uq ss ul uh : Nat → Int32} {hf hl us sf : Int32} (hN : 20000 ≤ N) (hR : SR c w) (hH : HR hs hf hl uq us) (hL : SL sf ss ul uh) (x1 up ue ut um : Int32) :
    ∃ r c' hf' hl' hs' us' w' uq', p_X6_restore N x1 c hf hl hs sf ss = some (r, c', hf', hl', hs') ∧ p_X7_restore N x1 us up ue ut um w uq ul uh = some (r, us', w', uq') ∧ SR c' w' ∧ HR hs' hf' hl' uq' us' := by
  obtain ⟨hs', ep, hH', hrec⟩ := h_prep (c := c) hN hH
  obtain ⟨b0, b1, hb0, hb1, rfl, hu0, hu1, hs0, hs1⟩ := id hL
  unfold p_X6_restore p_X4_fetch p_X7_restore
  rw [ep]
  rcases q_dec x1 0 1 with h1 | h1
  rotate_left
  · refine ⟨-nI 2, c, hf, hl, hs', us, w, uq, ?_, ?_, hR, hH'⟩
    · rw [s_outside_f (show ¬ q_in x1 (0 : Int32).toInt (1 : Int32).toInt from h1)]; simp (disch := omega) only [q_lit, nI_add, pk_mul, k_let_eq, k_c1_some, k_c2_some, k_c3_some, k_c4_some, k_c5_some, k_c6_some, k_c7_some, k_c8_some, k_c9_some, k_c10_some, k_c11_some, k_c12_some, k_c13_some, k_c14_some, k_ld_nI, k_st_nI, k_nz_nI, k_bit0, k_bit1, pk_rem, pk_sub, q_nn, q_np, q_pn, q_lnp, q_lpn, q_enp, q_epn, nI_leI, nI_ltI, nI_eq, if_pos, if_neg, ↓reduceIte, s_rec_neg]
    · rw [s_in_f (show ¬ q_in x1 (0 : Int32).toInt (1 : Int32).toInt from h1)]; simp (disch := omega) only [q_lit, nI_add, pk_mul, k_let_eq, k_c1_some, k_c2_some, k_c3_some, k_c4_some, k_c5_some, k_c6_some, k_c7_some, k_c8_some, k_c9_some, k_c10_some, k_c11_some, k_c12_some, k_c13_some, k_c14_some, k_ld_nI, k_st_nI, k_nz_nI, k_bit0, k_bit1, pk_rem, pk_sub, q_nn, q_np, q_pn, q_lnp, q_lpn, q_enp, q_epn, nI_leI, nI_ltI, nI_eq, if_pos, if_neg, ↓reduceIte]
  rw [s_outside_t (show q_in x1 (0 : Int32).toInt (1 : Int32).toInt from h1), s_in_t (show q_in x1 (0 : Int32).toInt (1 : Int32).toInt from h1)]
  obtain ⟨j, -, hj, rfl⟩ := q_in_nat (a := 0) (b := 1) (by omega) h1
  have huj : uh j = nI (if j = 0 then b0 else b1) := by
    rcases (show j = 0 ∨ j = 1 by omega) with rfl | rfl
    · rw [if_pos rfl]; exact hu0
    · rw [if_neg (by omega)]; exact hu1
  have ebit : (nI (b0 + 2 * b1) &&& (nI 1 <<< (nI j &&& nI 31))) = nI 0 ↔ (if j = 0 then b0 else b1) = 0 := by
    rcases (show j = 0 ∨ j = 1 by omega) with rfl | rfl <;> rcases (show b0 = 0 ∨ b0 = 1 by omega) with rfl | rfl <;> rcases (show b1 = 0 ∨ b1 = 1 by omega) with rfl | rfl <;> decide
  by_cases hb : (if j = 0 then b0 else b1) = 0
  · refine ⟨-nI 5, c, hf, hl, hs', us, w, uq, ?_, ?_, hR, hH'⟩
    · simp (disch := omega) only [q_lit, nI_add, pk_mul, k_let_eq, k_c1_some, k_c2_some, k_c3_some, k_c4_some, k_c5_some, k_c6_some, k_c7_some, k_c8_some, k_c9_some, k_c10_some, k_c11_some, k_c12_some, k_c13_some, k_c14_some, k_ld_nI, k_st_nI, k_nz_nI, k_bit0, k_bit1, pk_rem, pk_sub, q_nn, q_np, q_pn, q_lnp, q_lpn, q_enp, q_epn, nI_leI, nI_ltI, nI_eq, if_pos, if_neg, ↓reduceIte, ebit, hb, s_rec_neg]
    · simp (disch := omega) only [q_lit, nI_add, pk_mul, k_let_eq, k_c1_some, k_c2_some, k_c3_some, k_c4_some, k_c5_some, k_c6_some, k_c7_some, k_c8_some, k_c9_some, k_c10_some, k_c11_some, k_c12_some, k_c13_some, k_c14_some, k_ld_nI, k_st_nI, k_nz_nI, k_bit0, k_bit1, pk_rem, pk_sub, q_nn, q_np, q_pn, q_lnp, q_lpn, q_enp, q_epn, nI_leI, nI_ltI, nI_eq, if_pos, if_neg, ↓reduceIte, huj, hb]
  · have hb1' : (if j = 0 then b0 else b1) = 1 := by split at hb <;> split <;> omega
    obtain ⟨hf', hl', us', uq', e1, e2, hH2⟩ := hrec w up ue ut um hR
    have hsj : SR (fun i => ss (j * 225 + i)) (fun i => ul (225 * j + i)) := by
      rcases (show j = 0 ∨ j = 1 by omega) with rfl | rfl
      · rw [if_pos rfl] at hb1'
        refine SR_congr (fun i hi => ?_) (fun i hi => ?_) (hs0 hb1')
        · rw [Nat.zero_mul, Nat.zero_add]
        · rw [Nat.mul_zero, Nat.zero_add]
      · rw [if_neg (by omega)] at hb1'
        exact hs1 hb1'
    have hR' : SR (va_cpy ss c (j * 225) 0 225) (va_cpy ul w (225 * j) 0 225) := by
      refine SR_congr (fun i hi => ?_) (fun i hi => ?_) hsj
      · have := cpy_at (f := ss) (g := c) (a := j * 225) (b := 0) hi
        rw [Nat.zero_add] at this
        exact this
      · have := cpy_at (f := ul) (g := w) (a := 225 * j) (b := 0) hi
        rw [Nat.zero_add] at this
        exact this
    obtain ⟨⟨m, h8, h0, h3, hr⟩, -⟩ := id hR'
    refine ⟨nI m, _, hf', hl', hs', us', _, uq', ?_, ?_, hR', hH2⟩
    · simp (disch := omega) only [q_lit, nI_add, pk_mul, k_let_eq, k_c1_some, k_c2_some, k_c3_some, k_c4_some, k_c5_some, k_c6_some, k_c7_some, k_c8_some, k_c9_some, k_c10_some, k_c11_some, k_c12_some, k_c13_some, k_c14_some, k_ld_nI, k_st_nI, k_nz_nI, k_bit0, k_bit1, pk_rem, pk_sub, q_nn, q_np, q_pn, q_lnp, q_lpn, q_enp, q_epn, nI_leI, nI_ltI, nI_eq, if_pos, if_neg, ↓reduceIte, ebit, hb1', s_copyFromL, s_cell, h0, e1 m (by omega)]
    · simp (disch := omega) only [q_lit, nI_add, pk_mul, k_let_eq, k_c1_some, k_c2_some, k_c3_some, k_c4_some, k_c5_some, k_c6_some, k_c7_some, k_c8_some, k_c9_some, k_c10_some, k_c11_some, k_c12_some, k_c13_some, k_c14_some, k_ld_nI, k_st_nI, k_nz_nI, k_bit0, k_bit1, pk_rem, pk_sub, q_nn, q_np, q_pn, q_lnp, q_lpn, q_enp, q_epn, nI_leI, nI_ltI, nI_eq, if_pos, if_neg, ↓reduceIte, huj, hb1', e2, s_laySN hN, h3]
