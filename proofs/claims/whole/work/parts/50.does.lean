-- one order carried out
theorem s_number {N k : Nat} (hk : k < 40) (a kk t : Int32) (g : Nat → Int32) : p_X2_number N (nI k) a kk t g = some (g k) := by
  unfold p_X2_number
  simp only [q_lit]
  rw [if_neg (q_pos (by omega)), if_neg (by rw [nI_leI (by omega) (by omega)]; omega), k_ld_nI (by omega) (by omega)]
theorem s_fileOk {N m r t k : Nat} {c : Nat → Int32} {v : Int32} (hm : m ≤ 8) (h0 : c 0 = nI m) (hr : r < m) (ht : t ≤ 24) (h1 : c (9 + 27 * r) = nI t) (hk : k < t) (hv : q_in v (-9) 9) : p_X3_fileTooth N (nI r) (nI k) v c = some (c (12 + 27 * r + k) + nI 9, upd c (12 + 27 * r + k) v) := by
  unfold p_X3_fileTooth
  rw [s_hasT_t hm h0 hr ht h1 hk, k_c1_some, if_neg (show ¬ nI 1 = (0 : Int32) by decide), s_outside_t (show q_in v (-9 : Int32).toInt (9 : Int32).toInt from hv), k_c1_some, if_pos (show nI 0 = (0 : Int32) from rfl), s_height (by omega) (by omega), k_c1_some, s_shape (by omega) (by omega), k_c1_some]
  simp only [q_lit]
theorem s_text_lp {N m t : Nat} {c1 f g : Nat → Int32} (hm : m < 8) (ht : t ≤ 24) (h0 : c1 0 = nI (m + 1)) (h1 : c1 (9 + 27 * m) = nI t) (hg : ∀ k, k < t → g k = f k) (hf : ∀ k, k < t → q_in (f k) (-9) 9) (a kk tt : Int32) : ∀ n k : Nat, k ≤ t → t - k < n → f_X6_addRollerOfText_26 N n (nI t) (nI m) (nI k) (sp_fill c1 (12 + 27 * m) k f) a kk tt g = some (nI m, sp_fill c1 (12 + 27 * m) t f) := by
  intro n
  induction n with
  | zero => intro k h1 h2; omega
  | succ n ih =>
    intro k k1 k2
    show b_X6_addRollerOfText_26 N (f_X6_addRollerOfText_26 N n) (nI t) (nI m) (nI k) (sp_fill c1 (12 + 27 * m) k f) a kk tt g = _
    unfold b_X6_addRollerOfText_26
    by_cases hk : k = t
    · subst hk
      rw [if_pos (by rw [nI_leI (by omega) (by omega)]; omega)]
    · rw [if_neg (by rw [nI_leI (by omega) (by omega)]; omega), s_number (by omega), k_c1_some, hg k (by omega)]
      rw [s_fileOk (m := m + 1) (by omega) (by rw [sp_fill_out (by omega)]; exact h0) (by omega) ht (by rw [sp_fill_out (by omega)]; exact h1) (by omega) (hf k (by omega)), k_c2_some, sp_fill_step]
      simp only [q_lit, nI_add, k_let_eq]
      exact ih (k + 1) (by omega) (by omega)
theorem s_does_lp {N m t : Nat} {w f uo : Nat → Int32} (hm : m < 8) (ht : t ≤ 24) (hg : ∀ k, k < t → uo k = f k) (x2 us up ue ut : Int32) : ∀ n k : Nat, k ≤ t → t - k < n → f_X7_does_58 N n x2 (nI m) (nI k) us up ue ut (nI t) (sp_fill w (12 + 27 * m) k f) uo = some (x2, ue, sp_fill w (12 + 27 * m) t f) := by
  intro n
  induction n with
  | zero => intro k h1 h2; omega
  | succ n ih =>
    intro k k1 k2
    show b_X7_does_58 N (f_X7_does_58 N n) x2 (nI m) (nI k) us up ue ut (nI t) (sp_fill w (12 + 27 * m) k f) uo = _
    unfold b_X7_does_58
    simp only [q_lit, pk_mul, nI_add, k_let_eq]
    by_cases hk : k = t
    · subst hk
      rw [if_pos (by rw [nI_leI (by omega) (by omega)]; omega)]
    · rw [if_neg (by rw [nI_leI (by omega) (by omega)]; omega), k_ld_nI (by omega) (by omega), hg k (by omega), k_st_nI (by omega) (by omega), show 9 + 27 * m + 3 + k = 12 + 27 * m + k by omega, sp_fill_step]
      exact ih (k + 1) (by omega) (by omega)
theorem e_plus {N b : Nat} {c w f g uo : Nat → Int32} (hN : 20000 ≤ N) (hR : SR c w) (hb : 1 ≤ b) (hb2 : b ≤ 40) (hg : ∀ k, k < b → g k = f k) (hu : ∀ k, k < b → uo k = f k) (hf : ∀ k, k < b → q_in (f k) (-9) 9) (kk t us up ue ut : Int32) :
    (∃ e, 1 ≤ e ∧ e ≤ 5 ∧ p_X6_addRollerOfText N c (nI b) kk t g = some (-nI e, c) ∧ p_X7_does N (nI 43) us up ue ut (nI b) w uo = some (-nI e, ue, w)) ∨
    (∃ v c' w', v ≤ 99 ∧ p_X6_addRollerOfText N c (nI b) kk t g = some (nI v, c') ∧ p_X7_does N (nI 43) us up ue ut (nI b) w uo = some (nI 0, ue, w') ∧ SR c' w') := by
  obtain ⟨⟨m, h8, h0, h3, hr⟩, -⟩ := id hR
  unfold p_X6_addRollerOfText p_X2_numbers p_X7_does p_X7_rollerError
  simp only [k_c1_some]
  rw [if_pos (show nI 43 = (43 : Int32) from rfl)]
  rcases q_dec (nI b) 2 24 with h1 | h1
  rotate_left
  · refine Or.inl ⟨2, by omega, by omega, ?_, ?_⟩
    · unfold p_X3_addRoller; rw [s_outside_f (show ¬ q_in (nI b) (2 : Int32).toInt (24 : Int32).toInt from h1)]; simp (disch := omega) only [q_lit, nI_add, pk_mul, k_let_eq, k_c1_some, k_c2_some, k_c3_some, k_c4_some, k_c5_some, k_c6_some, k_c7_some, k_c8_some, k_c9_some, k_c10_some, k_c11_some, k_c12_some, k_c13_some, k_c14_some, k_ld_nI, k_st_nI, k_nz_nI, k_bit0, k_bit1, pk_rem, pk_sub, q_nn, q_np, q_pn, q_lnp, q_lpn, q_enp, q_epn, nI_leI, nI_ltI, nI_eq, if_pos, if_neg, ↓reduceIte]
    · rw [s_in_f (show ¬ q_in (nI b) (2 : Int32).toInt (24 : Int32).toInt from h1)]; simp (disch := omega) only [q_lit, nI_add, pk_mul, k_let_eq, k_c1_some, k_c2_some, k_c3_some, k_c4_some, k_c5_some, k_c6_some, k_c7_some, k_c8_some, k_c9_some, k_c10_some, k_c11_some, k_c12_some, k_c13_some, k_c14_some, k_ld_nI, k_st_nI, k_nz_nI, k_bit0, k_bit1, pk_rem, pk_sub, q_nn, q_np, q_pn, q_lnp, q_lpn, q_enp, q_epn, nI_leI, nI_ltI, nI_eq, if_pos, if_neg, ↓reduceIte]
  rw [s_in_t (show q_in (nI b) (2 : Int32).toInt (24 : Int32).toInt from h1)]
  have hz : q_in (0 : Int32) (-9) 9 := ⟨by decide, by decide⟩
  by_cases hm : m = 8
  · subst hm
    refine Or.inl ⟨4, by omega, by omega, ?_, ?_⟩
    · unfold p_X3_addRoller; rw [s_outside_t (show q_in (nI b) (2 : Int32).toInt (24 : Int32).toInt from h1), s_outside_t (show q_in (0 : Int32) (-9 : Int32).toInt (9 : Int32).toInt from hz)]; simp (disch := omega) only [q_lit, nI_add, pk_mul, k_let_eq, k_c1_some, k_c2_some, k_c3_some, k_c4_some, k_c5_some, k_c6_some, k_c7_some, k_c8_some, k_c9_some, k_c10_some, k_c11_some, k_c12_some, k_c13_some, k_c14_some, k_ld_nI, k_st_nI, k_nz_nI, k_bit0, k_bit1, pk_rem, pk_sub, q_nn, q_np, q_pn, q_lnp, q_lpn, q_enp, q_epn, nI_leI, nI_ltI, nI_eq, if_pos, if_neg, ↓reduceIte, s_cell, h0]
    · simp (disch := omega) only [q_lit, nI_add, pk_mul, k_let_eq, k_c1_some, k_c2_some, k_c3_some, k_c4_some, k_c5_some, k_c6_some, k_c7_some, k_c8_some, k_c9_some, k_c10_some, k_c11_some, k_c12_some, k_c13_some, k_c14_some, k_ld_nI, k_st_nI, k_nz_nI, k_bit0, k_bit1, pk_rem, pk_sub, q_nn, q_np, q_pn, q_lnp, q_lpn, q_enp, q_epn, nI_leI, nI_ltI, nI_eq, if_pos, if_neg, ↓reduceIte, h3]
  rw [q_in_nI (by omega)] at h1
  refine Or.inr ⟨m, sp_fill (upd (sp_fill (sp_new c m b) (12 + 27 * m) b (fun _ => 0)) 0 (nI (m + 1))) (12 + 27 * m) b f, sp_fill (sp_rnew w m (nI b)) (12 + 27 * m) b f, by omega, ?_, ?_, ?_⟩
  · rw [s_add hN (by omega) (by omega) (by omega) hz h0, k_c2_some, if_pos (show (0 : Int32) ≤ nI m by simp only [q_lit]; rw [nI_leI (by omega) (by omega)]; omega)]
    have el := s_text_lp (N := N) (m := m) (t := b) (c1 := upd (sp_fill (sp_new c m b) (12 + 27 * m) b (fun _ => 0)) 0 (nI (m + 1))) (f := f) (g := g) (by omega) (by omega) (q_us _ _ _) (by rw [q_un (by omega), sp_fill_out (by omega)]; unfold sp_new; simp (disch := omega) only [q_un, q_us]) hg hf (nI b) kk t N 0 (by omega) (by omega)
    rw [sp_fill_0] at el
    exact el
  · have el := s_does_lp (N := N) (m := m) (t := b) (w := sp_rnew w m (nI b)) (f := f) (uo := uo) (by omega) (by omega) hu (nI 0) us up ue ut N 0 (by omega) (by omega)
    rw [sp_fill_0] at el
    simp (disch := omega) only [q_lit, nI_add, pk_mul, k_let_eq, k_c1_some, k_c2_some, k_c3_some, k_c4_some, k_c5_some, k_c6_some, k_c7_some, k_c8_some, k_c9_some, k_c10_some, k_c11_some, k_c12_some, k_c13_some, k_c14_some, k_ld_nI, k_st_nI, k_nz_nI, k_bit0, k_bit1, pk_rem, pk_sub, q_nn, q_np, q_pn, q_lnp, q_lpn, q_enp, q_epn, nI_leI, nI_ltI, nI_eq, if_pos, if_neg, ↓reduceIte, h3, s_comes hN us up ue ut (nI b) (show m < 8 by omega) h3]
    exact el
  · refine SR_come hR h0 (by omega) (by omega) (by omega) (fun k hk => ⟨rfl, hf k hk⟩) ?_ (fun i hi hi2 => ?_) (fun k hk => ?_)
    · rw [sp_fill_out (by omega), q_us]
    · rw [sp_fill_out (by omega), q_un hi, sp_fill_out (by omega)]
    · rw [sp_fill_in hk]
theorem e_obey {N n p b q : Nat} {pp ux c w f g uo : Nat → Int32} {L : Int32} (hN : 20000 ≤ N) (hR : SR c w) (hO : OK N n pp ux p L b q f) (hg : ∀ k, k < b → g k = f k) (hu : ∀ k, k < b → uo k = f k) (t us up ue ut tl ta tt : Int32) (tp : Nat → Int32) :
    (∃ e tl' ta' tt' tp', 1 ≤ e ∧ e ≤ 5 ∧ p_X6_obey N c (nI b) L t g tl ta tt tp = some (-nI e, c, tl', ta', tt', tp') ∧ p_X7_does N L us up ue ut (nI b) w uo = some (-nI e, ue, w)) ∨
    (∃ v c' w' tl' ta' tt' tp' ue', v ≤ 99 ∧ p_X6_obey N c (nI b) L t g tl ta tt tp = some (nI v, c', tl', ta', tt', tp') ∧ p_X7_does N L us up ue ut (nI b) w uo = some (nI 0, ue', w') ∧ SR c' w') := by
  unfold p_X6_obey p_X2_kind
  simp only [k_c1_some]
  obtain ⟨-, -, hL, -⟩ := hO
  rcases hL with ⟨rfl, b1, b2, b3⟩ | ⟨rfl, rfl⟩ | ⟨rfl, rfl⟩ | ⟨rfl, rfl⟩
  · rw [if_pos (show nI 43 = (43 : Int32) from rfl)]
    rcases e_plus (N := N) hN hR b1 b2 hg hu b3 (nI 43) t us up ue ut with ⟨e, e1, e2, e3, e4⟩ | ⟨v, c', w', v1, e3, e4, e5⟩
    · refine Or.inl ⟨e, tl, ta, tt, tp, e1, e2, ?_, e4⟩
      rw [e3, k_c2_some]
    · refine Or.inr ⟨v, c', w', tl, ta, tt, tp, ue, v1, ?_, e4, e5⟩
      rw [e3, k_c2_some]
  · rw [if_neg (show ¬ nI 102 = (43 : Int32) by decide), if_pos (show nI 102 = (102 : Int32) from rfl)]
    unfold p_X7_does
    rw [if_neg (show ¬ nI 102 = (43 : Int32) by decide), if_neg (show ¬ nI 102 = (109 : Int32) by decide), if_neg (show ¬ nI 102 = (114 : Int32) by decide)]
    simp only [q_lit]
    rw [s_number (by omega), k_c1_some, s_number (by omega), k_c1_some, s_number (by omega), k_c1_some, k_ld_nI (by omega) (by omega), k_ld_nI (by omega) (by omega), k_ld_nI (by omega) (by omega), hg 0 (by omega), hg 1 (by omega), hg 2 (by omega), hu 0 (by omega), hu 1 (by omega), hu 2 (by omega)]
    rcases o_file (N := N) us up ue ut (nI 3) hR (f 0) (f 1) (f 2) with ⟨e, e1, e2, h1, h2⟩ | ⟨r, k, v, c', w', hv, -, -, h1, h2, h3, hR', -, -⟩
    · refine Or.inl ⟨e, tl, ta, tt, tp, e1, by omega, ?_, ?_⟩
      · rw [h1, k_c2_some]
      · rw [h2, k_c1_some, if_neg (fun h => by rw [q_np (by omega) (by omega)] at h; omega)]
    · refine Or.inr ⟨v, c', w', tl, ta, tt, tp, ue, by omega, ?_, ?_, hR'⟩
      · rw [h1, k_c2_some]
      · rw [h2, k_c1_some, if_pos rfl, k_ld_nI (by omega) (by omega), k_ld_nI (by omega) (by omega), k_ld_nI (by omega) (by omega), hu 0 (by omega), hu 1 (by omega), hu 2 (by omega), h3 us, k_c2_some, if_pos (by rw [nI_leI (by omega) (by omega)]; omega)]
  · rw [if_neg (show ¬ nI 109 = (43 : Int32) by decide), if_neg (show ¬ nI 109 = (102 : Int32) by decide), if_pos (show nI 109 = (109 : Int32) from rfl)]
    unfold p_X7_does b_X7_does_211
    rw [if_neg (show ¬ nI 109 = (43 : Int32) by decide), if_pos (show nI 109 = (109 : Int32) from rfl)]
    simp only [q_lit]
    rw [s_number (by omega), k_c1_some, k_ld_nI (by omega) (by omega), hg 0 (by omega), hu 0 (by omega)]
    rcases o_melt (N := N) hN us up ue ut (nI 1) hR (f 0) with ⟨h1, h2⟩ | ⟨v, c', w', hv, h1, h2, h3, hR'⟩
    · refine Or.inl ⟨1, tl, ta, tt, tp, by omega, by omega, ?_, ?_⟩
      · rw [h1, k_c2_some]
      · rw [h2, k_c1_some, if_pos rfl, if_neg (by decide)]
    · refine Or.inr ⟨v, c', w', tl, ta, tt, tp, ue, by omega, ?_, ?_, hR'⟩
      · rw [h1, k_c2_some]
      · rw [h2, k_c1_some, if_neg (by decide)]
        simp (disch := omega) only [q_lit, nI_add, pk_mul, k_let_eq, k_c1_some, k_c2_some, k_c3_some, k_c4_some, k_c5_some, k_c6_some, k_c7_some, k_c8_some, k_c9_some, k_c10_some, k_c11_some, k_c12_some, k_c13_some, k_c14_some, k_ld_nI, k_st_nI, k_nz_nI, k_bit0, k_bit1, pk_rem, pk_sub, q_nn, q_np, q_pn, q_lnp, q_lpn, q_enp, q_epn, nI_leI, nI_ltI, nI_eq, if_pos, if_neg, ↓reduceIte, hu 0 (by omega), h3 us]
  · rw [if_neg (show ¬ nI 114 = (43 : Int32) by decide), if_neg (show ¬ nI 114 = (102 : Int32) by decide), if_neg (show ¬ nI 114 = (109 : Int32) by decide), if_pos (show nI 114 = (114 : Int32) from rfl)]
    unfold p_X7_does
    rw [if_neg (show ¬ nI 114 = (43 : Int32) by decide), if_neg (show ¬ nI 114 = (109 : Int32) by decide), if_pos (show nI 114 = (114 : Int32) from rfl)]
    simp only [q_lit]
    rw [s_number (by omega), k_c1_some, s_number (by omega), k_c1_some, s_number (by omega), k_c1_some, s_number (by omega), k_c1_some, s_number (by omega), k_c1_some, s_number (by omega), k_c1_some,
      k_ld_nI (by omega) (by omega), k_ld_nI (by omega) (by omega), k_ld_nI (by omega) (by omega), k_ld_nI (by omega) (by omega), k_ld_nI (by omega) (by omega), k_ld_nI (by omega) (by omega),
      hg 0 (by omega), hg 1 (by omega), hg 2 (by omega), hg 3 (by omega), hg 4 (by omega), hg 5 (by omega), hu 0 (by omega), hu 1 (by omega), hu 2 (by omega), hu 3 (by omega), hu 4 (by omega), hu 5 (by omega)]
    rcases o_run (N := N) hN us up ue ut (nI 6) hR (f 0) (f 1) (f 2) (f 3) (f 4) (f 5) tl ta tt tp with ⟨e, tl', ta', tt', tp', e1, e2, h1, h2⟩ | ⟨v, c', w', tl', ta', tt', tp', hv, h1, h2, h3, hR'⟩
    · refine Or.inl ⟨e, tl', ta', tt', tp', e1, e2, ?_, ?_⟩
      · rw [h1, k_c6_some]
      · rw [h2, k_c1_some, if_neg (fun h => by rw [q_np (by omega) (by omega)] at h; omega)]
    · obtain ⟨ue', h3⟩ := h3 us
      refine Or.inr ⟨v, c', w', tl', ta', tt', tp', ue', hv, ?_, ?_, hR'⟩
      · rw [h1, k_c6_some]
      · rw [h2, k_c1_some, if_pos rfl, k_ld_nI (by omega) (by omega), k_ld_nI (by omega) (by omega), k_ld_nI (by omega) (by omega), k_ld_nI (by omega) (by omega), k_ld_nI (by omega) (by omega), k_ld_nI (by omega) (by omega),
          hu 0 (by omega), hu 1 (by omega), hu 2 (by omega), hu 3 (by omega), hu 4 (by omega), hu 5 (by omega), h3, k_c3_some, if_pos (by rw [nI_leI (by omega) (by omega)]; omega)]
