-- bestOffset
theorem s_bo_loop {N u l a b σ : Nat} {c w : Nat → Int32} (hN : 20000 ≤ N) (h : PC c w u l a b) (hσ : σ ≤ 30) (hc : c 6 = nI σ) (x3 ta tt : Int32) : ∀ (n i : Nat) (tl : Int32) (tp : Nat → Int32), i ≤ b → b - i < n →
    ∃ tl' tp', f_X6_bestOffset_46 N n (nI u) (nI l) x3 (sp_bst (fun o => sp_G (sp_q w u l o a b) (Nat.lcm a b) σ) i).1 (sp_bst (fun o => sp_G (sp_q w u l o a b) (Nat.lcm a b) σ) i).2 (nI b) (nI i) c tl ta tt tp = some (if x3 = 0 then (sp_bst (fun o => sp_G (sp_q w u l o a b) (Nat.lcm a b) σ) b).1 else (sp_bst (fun o => sp_G (sp_q w u l o a b) (Nat.lcm a b) σ) b).2, tl', tp') := by
  obtain ⟨-, ⟨a1, a2, -, -⟩, ⟨b1, b2, -, -⟩, -, -⟩ := id h
  intro n
  induction n with
  | zero => intro i tl tp h1 h2; omega
  | succ n ih =>
    intro i tl tp h1 h2
    show ∃ tl' tp', b_X6_bestOffset_46 N (f_X6_bestOffset_46 N n) (nI u) (nI l) x3 _ _ (nI b) (nI i) c tl ta tt tp = _
    unfold b_X6_bestOffset_46
    by_cases hi : i = b
    · rw [if_pos (by rw [nI_leI (by omega) (by omega)]; omega), hi]
      by_cases h3 : x3 = 0
      · rw [if_pos h3, if_pos h3]; exact ⟨tl, tp, rfl⟩
      · rw [if_neg h3, if_neg h3]; exact ⟨tl, tp, rfl⟩
    · rw [if_neg (by rw [nI_leI (by omega) (by omega)]; omega)]
      obtain ⟨tl1, tp1, e⟩ := s_gap (σ := σ) hN h (show i ≤ 23 by omega) hσ hc tl ta tt tp
      rw [e, k_c3_some]
      simp only [q_lit, k_let_eq, nI_add]
      have hs := ih (i + 1) tl1 tp1 (by omega) (by omega)
      rw [show sp_bst (fun o => sp_G (sp_q w u l o a b) (Nat.lcm a b) σ) (i + 1) = if sp_G (sp_q w u l i a b) (Nat.lcm a b) σ = -nI 6 then sp_bst (fun o => sp_G (sp_q w u l o a b) (Nat.lcm a b) σ) i else if (sp_bst (fun o => sp_G (sp_q w u l o a b) (Nat.lcm a b) σ) i).2 = -nI 6 then (nI i, sp_G (sp_q w u l i a b) (Nat.lcm a b) σ) else if (sp_bst (fun o => sp_G (sp_q w u l o a b) (Nat.lcm a b) σ) i).2 ≤ sp_G (sp_q w u l i a b) (Nat.lcm a b) σ then sp_bst (fun o => sp_G (sp_q w u l o a b) (Nat.lcm a b) σ) i else (nI i, sp_G (sp_q w u l i a b) (Nat.lcm a b) σ) from rfl] at hs
      simp only [q_lit] at hs
      by_cases g1 : sp_G (sp_q w u l i a b) (Nat.lcm a b) σ = -nI 6
      · rw [if_pos g1] at hs ⊢; exact hs
      · rw [if_neg g1] at hs ⊢
        by_cases g2 : (sp_bst (fun o => sp_G (sp_q w u l o a b) (Nat.lcm a b) σ) i).2 = -nI 6
        · rw [if_pos g2] at hs ⊢; exact hs
        · rw [if_neg g2] at hs ⊢
          by_cases g3 : (sp_bst (fun o => sp_G (sp_q w u l o a b) (Nat.lcm a b) σ) i).2 ≤ sp_G (sp_q w u l i a b) (Nat.lcm a b) σ
          · rw [if_pos g3] at hs ⊢; exact hs
          · rw [if_neg g3] at hs ⊢; exact hs
theorem s_rbo_loop {N u l a b σ : Nat} {c w : Nat → Int32} (hN : 20000 ≤ N) (us up ue ut um : Int32) (h : PC c w u l a b) (hσ : σ ≤ 30) (hw : w 0 = nI σ) (x3 : Int32) : ∀ n i : Nat, i ≤ 24 → 24 - i < n →
    f_X7_bestOffset_41 N n (nI u) (nI l) x3 (sp_bst (fun o => sp_G (sp_q w u l o a b) (Nat.lcm a b) σ) i).1 (sp_bst (fun o => sp_G (sp_q w u l o a b) (Nat.lcm a b) σ) i).2 (nI i) us up ue ut um w = some (if x3 = 0 then (sp_bst (fun o => sp_G (sp_q w u l o a b) (Nat.lcm a b) σ) 24).1 else (sp_bst (fun o => sp_G (sp_q w u l o a b) (Nat.lcm a b) σ) 24).2) := by
  intro n
  induction n with
  | zero => intro i h1 h2; omega
  | succ n ih =>
    intro i h1 h2
    show b_X7_bestOffset_41 N (f_X7_bestOffset_41 N n) (nI u) (nI l) x3 _ _ (nI i) us up ue ut um w = _
    unfold b_X7_bestOffset_41
    simp only [q_lit]
    by_cases hi : i = 24
    · rw [if_pos (by rw [nI_leI (by omega) (by omega)]; omega), hi]
      by_cases h3 : x3 = nI 0
      · rw [if_pos h3, if_pos h3]
      · rw [if_neg h3, if_neg h3]
    · rw [if_neg (by rw [nI_leI (by omega) (by omega)]; omega), s_least hN us up ue ut um h (show i ≤ 23 by omega) hσ hw, k_c1_some]
      unfold b_X7_bestOffset_84
      simp only [q_lit, k_let_eq, nI_add, if_pos, if_neg (show ¬ nI 1 = nI 0 by decide)]
      have hs := ih (i + 1) (by omega) (by omega)
      rw [show sp_bst (fun o => sp_G (sp_q w u l o a b) (Nat.lcm a b) σ) (i + 1) = if sp_G (sp_q w u l i a b) (Nat.lcm a b) σ = -nI 6 then sp_bst (fun o => sp_G (sp_q w u l o a b) (Nat.lcm a b) σ) i else if (sp_bst (fun o => sp_G (sp_q w u l o a b) (Nat.lcm a b) σ) i).2 = -nI 6 then (nI i, sp_G (sp_q w u l i a b) (Nat.lcm a b) σ) else if (sp_bst (fun o => sp_G (sp_q w u l o a b) (Nat.lcm a b) σ) i).2 ≤ sp_G (sp_q w u l i a b) (Nat.lcm a b) σ then sp_bst (fun o => sp_G (sp_q w u l o a b) (Nat.lcm a b) σ) i else (nI i, sp_G (sp_q w u l i a b) (Nat.lcm a b) σ) from rfl] at hs
      simp only [q_lit] at hs
      have hno := sp_bst_none (fun o => sp_G (sp_q w u l o a b) (Nat.lcm a b) σ) i (by omega)
      by_cases g1 : sp_G (sp_q w u l i a b) (Nat.lcm a b) σ = -nI 6
      · rw [if_pos g1] at hs ⊢; exact hs
      · rw [if_neg g1] at hs ⊢
        by_cases g2 : (sp_bst (fun o => sp_G (sp_q w u l o a b) (Nat.lcm a b) σ) i).2 = -nI 6
        · rw [if_pos g2] at hs
          rw [if_pos (hno.mpr g2)]; exact hs
        · rw [if_neg g2] at hs
          rw [if_neg (fun q => g2 (hno.mp q))]
          by_cases g3 : (sp_bst (fun o => sp_G (sp_q w u l o a b) (Nat.lcm a b) σ) i).2 ≤ sp_G (sp_q w u l i a b) (Nat.lcm a b) σ
          · rw [if_pos g3] at hs ⊢; exact hs
          · rw [if_neg g3] at hs ⊢; exact hs
theorem e_bestOffset {N : Nat} {c w : Nat → Int32} (hN : 20000 ≤ N) (hR : SR c w) (x1 x2 x3 tl ta tt : Int32) (tp : Nat → Int32) (us up ue ut um : Int32) :
    ∃ r tl' tp', p_X6_bestOffset N x1 x2 x3 c tl ta tt tp = some (r, tl', tp') ∧ p_X7_bestOffset N x1 x2 x3 us up ue ut um w = some r := by
  obtain ⟨⟨m, hm⟩, th, st, sl, pu, we, -, -, -, ⟨d1, d2, d3⟩, -, -⟩ := hR
  unfold p_X6_bestOffset p_X6_questionError p_X7_bestOffset
  rcases s_err (N := N) us up ue ut um hm x1 x2 0 0 with ⟨e, e1, e2, h1, h2⟩ | ⟨u, l, o, g, hu, hl, hne, ho, hg, rfl, rfl, -, -, h1, h2⟩
  · refine ⟨-nI e, tl, tp, ?_, ?_⟩
    · rw [h1]; simp (disch := omega) only [q_lit, nI_add, pk_mul, k_let_eq, k_c1_some, k_c2_some, k_c3_some, k_c4_some, k_c5_some, k_c6_some, k_c7_some, k_c8_some, k_c9_some, k_c10_some, k_c11_some, k_c12_some, k_c13_some, k_c14_some, k_c15_some, k_c16_some, k_c17_some, k_ld_nI, k_st_nI, k_nz_nI, k_bit0, k_bit1, pk_rem, pk_sub, q_nn, q_np, q_pn, q_lnp, q_lpn, q_enp, q_epn, nI_leI, nI_ltI, nI_eq, if_pos, if_neg, ↓reduceIte]
    · rw [h2]; simp (disch := omega) only [q_lit, nI_add, pk_mul, k_let_eq, k_c1_some, k_c2_some, k_c3_some, k_c4_some, k_c5_some, k_c6_some, k_c7_some, k_c8_some, k_c9_some, k_c10_some, k_c11_some, k_c12_some, k_c13_some, k_c14_some, k_c15_some, k_c16_some, k_c17_some, k_ld_nI, k_st_nI, k_nz_nI, k_bit0, k_bit1, pk_rem, pk_sub, q_nn, q_np, q_pn, q_lnp, q_lpn, q_enp, q_epn, nI_leI, nI_ltI, nI_eq, if_pos, if_neg, ↓reduceIte]
  rw [h1, h2]
  rcases q_dec x3 0 1 with h5 | h5
  rotate_left
  · refine ⟨-nI 2, tl, tp, ?_, ?_⟩
    · rw [s_outside_f (show ¬ q_in x3 (0 : Int32).toInt (1 : Int32).toInt from h5)]; simp (disch := omega) only [q_lit, nI_add, pk_mul, k_let_eq, k_c1_some, k_c2_some, k_c3_some, k_c4_some, k_c5_some, k_c6_some, k_c7_some, k_c8_some, k_c9_some, k_c10_some, k_c11_some, k_c12_some, k_c13_some, k_c14_some, k_c15_some, k_c16_some, k_c17_some, k_ld_nI, k_st_nI, k_nz_nI, k_bit0, k_bit1, pk_rem, pk_sub, q_nn, q_np, q_pn, q_lnp, q_lpn, q_enp, q_epn, nI_leI, nI_ltI, nI_eq, if_pos, if_neg, ↓reduceIte]
    · rw [s_in_f (show ¬ q_in x3 (0 : Int32).toInt (1 : Int32).toInt from h5)]; simp (disch := omega) only [q_lit, nI_add, pk_mul, k_let_eq, k_c1_some, k_c2_some, k_c3_some, k_c4_some, k_c5_some, k_c6_some, k_c7_some, k_c8_some, k_c9_some, k_c10_some, k_c11_some, k_c12_some, k_c13_some, k_c14_some, k_c15_some, k_c16_some, k_c17_some, k_ld_nI, k_st_nI, k_nz_nI, k_bit0, k_bit1, pk_rem, pk_sub, q_nn, q_np, q_pn, q_lnp, q_lpn, q_enp, q_epn, nI_leI, nI_ltI, nI_eq, if_pos, if_neg, ↓reduceIte]
  rw [s_outside_t (show q_in x3 (0 : Int32).toInt (1 : Int32).toInt from h5), s_in_t (show q_in x3 (0 : Int32).toInt (1 : Int32).toInt from h5)]
  obtain ⟨a, b, hP⟩ := PC_of hm hu hl
  obtain ⟨⟨hu8, hl8⟩, ⟨a1, a2, a3, a4⟩, ⟨b1, b2, b3, b4⟩, -, -⟩ := id hP
  obtain ⟨tl', tp', e⟩ := s_bo_loop (σ := sl) hN hP d1 d2 x3 ta tt N 0 tl tp (by omega) (by omega)
  have e' := s_rbo_loop (σ := sl) hN us up ue ut um hP d1 d3 x3 N 0 (by omega) (by omega)
  have hper := sp_bst_per (G := fun o => sp_G (sp_q w u l o a b) (Nat.lcm a b) sl) (b := b) (by omega) (fun o => by show sp_G (sp_q w u l o a b) _ _ = sp_G (sp_q w u l (o % b) a b) _ _; rw [sp_q_per w u l a b o]) (24 - b)
  rw [show b + (24 - b) = 24 by omega] at hper
  rw [hper] at e'
  have hmin : k_min (nI b) (nI 24) = nI b := by
    unfold k_min
    rw [if_neg (by rw [nI_ltI (by omega) (by omega)]; omega)]
  refine ⟨(if x3 = 0 then (sp_bst (fun o => sp_G (sp_q w u l o a b) (Nat.lcm a b) sl) b).1 else (sp_bst (fun o => sp_G (sp_q w u l o a b) (Nat.lcm a b) sl) b).2), tl', tp', ?_, ?_⟩
  · simp (disch := omega) only [q_lit, nI_add, pk_mul, k_let_eq, k_c1_some, k_c2_some, k_c3_some, k_c4_some, k_c5_some, k_c6_some, k_c7_some, k_c8_some, k_c9_some, k_c10_some, k_c11_some, k_c12_some, k_c13_some, k_c14_some, k_c15_some, k_c16_some, k_c17_some, k_ld_nI, k_st_nI, k_nz_nI, k_bit0, k_bit1, pk_rem, pk_sub, q_nn, q_np, q_pn, q_lnp, q_lpn, q_enp, q_epn, nI_leI, nI_ltI, nI_eq, if_pos, if_neg, ↓reduceIte, s_teeth, b3, hmin]
    simp only [q_lit] at e
    exact e
  · simp (disch := omega) only [q_lit, nI_add, pk_mul, k_let_eq, k_c1_some, k_c2_some, k_c3_some, k_c4_some, k_c5_some, k_c6_some, k_c7_some, k_c8_some, k_c9_some, k_c10_some, k_c11_some, k_c12_some, k_c13_some, k_c14_some, k_c15_some, k_c16_some, k_c17_some, k_ld_nI, k_st_nI, k_nz_nI, k_bit0, k_bit1, pk_rem, pk_sub, q_nn, q_np, q_pn, q_lnp, q_lpn, q_enp, q_epn, nI_leI, nI_ltI, nI_eq, if_pos, if_neg, ↓reduceIte]
    simp only [q_lit] at e'
    exact e'
