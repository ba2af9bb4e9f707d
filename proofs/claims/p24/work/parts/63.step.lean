-- ONE CHANGE, the class alone: refused and as it was, or recorded
def ST (c : Nat → Int32) (m : Nat) : Prop := (∃ w, SR c w) ∧ c 0 = nI m ∧ m ≤ 8
theorem SR_0 {c w : Nat → Int32} (h : SR c w) : w 3 = c 0 := by
  obtain ⟨⟨m, -, h0, h3, -⟩, -⟩ := h
  rw [h0, h3]
theorem SR_m {c w : Nat → Int32} {m : Nat} (h : SR c w) (h0 : c 0 = nI m) (hm : m < 65536) : m ≤ 8 := by
  obtain ⟨⟨m', h8, h0', -⟩, -⟩ := h
  have := (nI_eq (a := m) (b := m') (by omega) (by omega)).mp (h0.symm.trans h0')
  omega
theorem ST_congr {c c' : Nat → Int32} {m : Nat} (h : ∀ i, i < 225 → c' i = c i) (hS : ST c m) : ST c' m := by
  obtain ⟨⟨w, hR⟩, h0, h8⟩ := hS
  exact ⟨⟨w, SR_congr h (fun _ _ => rfl) hR⟩, by rw [h 0 (by omega)]; exact h0, h8⟩
def STEP (c : Nat → Int32) (f k : Nat) (hs : Nat → Int32) (r : Int32) (c' : Nat → Int32) (hf' hl' : Int32) (hs' : Nat → Int32) : Prop :=
  hs' = va_cpy c hs 0 (f * 225) 225 ∧ ((∃ e : Nat, 1 ≤ e ∧ e ≤ 9 ∧ r = -nI e ∧ c' = c ∧ hf' = nI f ∧ hl' = nI k) ∨ (∃ v m' : Nat, v < 2 ^ 31 ∧ r = nI v ∧ ST c' m' ∧ 2 ≤ m' ∧ hf' = nI (if f = 6 then 0 else f + 1) ∧ hl' = nI (if k = 6 then 6 else k + 1)))
section SP
variable {m f k : Nat} {c hs : Nat → Int32}
theorem act_set (hS : ST c m) (hm : 2 ≤ m) (hf : f < 7) (hk : k ≤ 6) (x1 x2 : Int32) : ∃ r c' hf' hl' hs', p_X6_set 20000 x1 x2 c (nI f) (nI k) hs = some (r, c', hf', hl', hs') ∧ STEP c f k hs r c' hf' hl' hs' := by
  obtain ⟨⟨w, hR⟩, h0, h8⟩ := hS
  rcases o_set (N := 20000) hR x1 x2 with ⟨h1, -⟩ | ⟨j, v, c', hj, -, hv, -, h1, -, hR'⟩
  · exact ⟨_, _, _, _, _, l_set (l_prep hf c hs (nI k)) (by omega) (by omega) h1, rfl, Or.inl ⟨2, by omega, by omega, rfl, rfl, rfl, rfl⟩⟩
  · refine ⟨nI v, c', _, _, _, ?_, rfl, Or.inr ⟨v, m, by omega, rfl, ⟨⟨_, hR'⟩, ?_, h8⟩, hm, rfl, rfl⟩⟩
    · unfold p_X6_set
      rw [l_prep hf, k_c1_some, h1, k_c2_some, s_rec_pos (by omega) hf hk, k_c3_some]
    · rw [← SR_0 hR', q_un (by omega), SR_0 hR, h0]
theorem act_card (hS : ST c m) (hm : 2 ≤ m) (hf : f < 7) (hk : k ≤ 6) (x1 x2 : Int32) : ∃ r c' hf' hl' hs', p_X6_card 20000 x1 x2 c (nI f) (nI k) hs = some (r, c', hf', hl', hs') ∧ STEP c f k hs r c' hf' hl' hs' := by
  obtain ⟨⟨w, hR⟩, h0, h8⟩ := hS
  rcases o_card (N := 20000) hR x1 x2 with ⟨h1, -⟩ | ⟨v, hv, -, -, -, h1, hR'⟩
  · exact ⟨_, _, _, _, _, l_card (l_prep hf c hs (nI k)) (by omega) (by omega) h1, rfl, Or.inl ⟨2, by omega, by omega, rfl, rfl, rfl, rfl⟩⟩
  · refine ⟨nI v, _, _, _, _, ?_, rfl, Or.inr ⟨v, m, by omega, rfl, ⟨⟨_, hR'⟩, ?_, h8⟩, hm, rfl, rfl⟩⟩
    · unfold p_X6_card
      rw [l_prep hf, k_c1_some, h1, k_c2_some, s_rec_pos (by omega) hf hk, k_c3_some]
    · rw [q_un (by omega), q_un (by omega), h0]
theorem act_file (hS : ST c m) (hm : 2 ≤ m) (hf : f < 7) (hk : k ≤ 6) (x1 x2 x3 : Int32) : ∃ r c' hf' hl' hs', p_X6_file 20000 x1 x2 x3 c (nI f) (nI k) hs = some (r, c', hf', hl', hs') ∧ STEP c f k hs r c' hf' hl' hs' := by
  obtain ⟨⟨w, hR⟩, h0, h8⟩ := hS
  rcases o_file (N := 20000) 0 0 0 0 0 hR x1 x2 x3 with ⟨e, e1, e2, h1, -⟩ | ⟨r, j, v, c', w', hv, -, -, h1, -, -, hR', ec, -⟩
  · exact ⟨_, _, _, _, _, l_file (l_prep hf c hs (nI k)) e1 (by omega) h1, rfl, Or.inl ⟨e, e1, by omega, rfl, rfl, rfl, rfl⟩⟩
  · refine ⟨nI v, _, _, _, _, ?_, rfl, Or.inr ⟨v, m, by omega, rfl, ⟨⟨_, hR'⟩, ?_, h8⟩, hm, rfl, rfl⟩⟩
    · unfold p_X6_file
      rw [l_prep hf, k_c1_some, h1, k_c2_some, s_rec_pos (by omega) hf hk, k_c3_some]
    · rw [ec, q_un (by omega), h0]
theorem o_meltC {x1 : Int32} (hS : ST c m) : p_X3_meltRoller 20000 x1 c = some (-nI 1, c) ∨ (0 < m ∧ ∃ c', p_X3_meltRoller 20000 x1 c = some (nI (m - 1), c') ∧ ST c' (m - 1)) := by
  obtain ⟨⟨w, hR⟩, h0, h8⟩ := hS
  rcases q_ro_dec x1 m with ⟨r, hrm, rfl⟩ | h1
  · right
    rcases o_melt (N := 20000) (by omega) 0 0 0 0 0 hR (nI r) with ⟨g1, -⟩ | ⟨v, c', w', hv, g1, -, -, hR'⟩
    · unfold p_X3_meltRoller at g1
      have el := s_melt_loop (N := 20000) (q := m - 1) (p := 9 + 27 * r) c (by omega) 20000 (9 + 27 * r) (by omega) (by omega) (by omega)
      rw [sp_shift_0] at el
      rw [s_has_t h8 h0 hrm, k_c1_some, if_neg (by decide)] at g1
      simp only [q_lit] at g1
      rw [s_cell (by omega), k_c1_some, h0, k_let_eq, pk_sub (by omega), s_placeOf, k_c1_some, el] at g1
      have e := (Prod.mk.inj (Option.some.inj g1)).1
      rw [q_pn (by omega) (by omega)] at e
      omega
    · refine ⟨by omega, c', ?_⟩
      have g2 := g1
      unfold p_X3_meltRoller at g2
      have el := s_melt_loop (N := 20000) (q := m - 1) (p := 9 + 27 * r) c (by omega) 20000 (9 + 27 * r) (by omega) (by omega) (by omega)
      rw [sp_shift_0] at el
      rw [s_has_t h8 h0 hrm, k_c1_some, if_neg (by decide)] at g2
      simp only [q_lit] at g2
      rw [s_cell (by omega), k_c1_some, h0, k_let_eq, pk_sub (by omega), s_placeOf, k_c1_some, el] at g2
      have e1 := (Prod.mk.inj (Option.some.inj g2)).1
      have e2 := (Prod.mk.inj (Option.some.inj g2)).2
      rw [← e1] at g1
      exact ⟨g1, ⟨_, hR'⟩, by rw [← e2, q_us], by omega⟩
  · exact Or.inl (l_melt1 h8 h0 h1)
theorem act_melt (hS : ST c m) (hm : 2 < m) (hf : f < 7) (hk : k ≤ 6) (x1 : Int32) : ∃ r c' hf' hl' hs', p_X6_melt 20000 x1 c (nI f) (nI k) hs = some (r, c', hf', hl', hs') ∧ STEP c f k hs r c' hf' hl' hs' := by
  rcases o_meltC (x1 := x1) hS with h1 | ⟨-, c', h1, hS'⟩
  · exact ⟨_, _, _, _, _, l_melt (l_prep hf c hs (nI k)) (by omega) (by omega) h1, rfl, Or.inl ⟨1, by omega, by omega, rfl, rfl, rfl, rfl⟩⟩
  · have := hS.2.2
    refine ⟨nI (m - 1), c', _, _, _, ?_, rfl, Or.inr ⟨m - 1, m - 1, by omega, rfl, hS', by omega, rfl, rfl⟩⟩
    unfold p_X6_melt
    rw [l_prep hf, k_c1_some, h1, k_c2_some, s_rec_pos (by omega) hf hk, k_c3_some]
theorem o_rollerC {t : Nat} {v : Int32} (hS : ST c m) (hm : m < 8) (t1 : 2 ≤ t) (t2 : t ≤ 24) (hv : q_in v (-9) 9) : ∃ c', p_X3_addRoller 20000 (nI t) v c = some (nI m, c') ∧ ST c' (m + 1) ∧ c' = upd (sp_fill (sp_new c m t) (12 + 27 * m) t (fun _ => v)) 0 (nI (m + 1)) := by
  obtain ⟨⟨w, hR⟩, h0, h8⟩ := hS
  refine ⟨_, s_add (by omega) hm t1 t2 hv h0, ⟨⟨sp_fill (sp_rnew w m (nI t)) (12 + 27 * m) t (fun _ => v), ?_⟩, q_us _ _ _, by omega⟩, rfl⟩
  refine SR_come hR h0 hm t1 t2 (fun k hk => ⟨rfl, hv⟩) (q_us _ _ _) (fun i hi hi2 => ?_) (fun k hk => ?_)
  · rw [q_un hi, sp_fill_out (by omega)]
  · rw [q_un (by omega), sp_fill_in hk]
theorem act_roller (hS : ST c m) (hm : 2 ≤ m) (hf : f < 7) (hk : k ≤ 6) (x1 x2 : Int32) : ∃ r c' hf' hl' hs', p_X6_roller 20000 x1 x2 c (nI f) (nI k) hs = some (r, c', hf', hl', hs') ∧ STEP c f k hs r c' hf' hl' hs' := by
  rcases q_dec x1 2 24 with hx1 | hx1
  rotate_left
  · exact ⟨_, _, _, _, _, l_roller (l_prep hf c hs (nI k)) (by omega) (by omega) (l_rol1 hx1), rfl, Or.inl ⟨2, by omega, by omega, rfl, rfl, rfl, rfl⟩⟩
  rcases q_dec x2 (-9) 9 with hx2 | hx2
  rotate_left
  · exact ⟨_, _, _, _, _, l_roller (l_prep hf c hs (nI k)) (by omega) (by omega) (l_rol2 hx1 hx2), rfl, Or.inl ⟨2, by omega, by omega, rfl, rfl, rfl, rfl⟩⟩
  have h8 := hS.2.2
  by_cases hm8 : m = 8
  · subst hm8
    have h0 := hS.2.1
    refine ⟨_, _, _, _, _, l_roller (e := 4) (l_prep hf c hs (nI k)) (by omega) (by omega) ?_, rfl, Or.inl ⟨4, by omega, by omega, rfl, rfl, rfl, rfl⟩⟩
    unfold p_X3_addRoller; rw [s_outside_t (show q_in x1 (2 : Int32).toInt (24 : Int32).toInt from hx1), s_outside_t (show q_in x2 (-9 : Int32).toInt (9 : Int32).toInt from hx2)]; simp (disch := omega) only [q_lit, nI_add, pk_mul, k_let_eq, k_c1_some, k_c2_some, k_c3_some, k_c4_some, k_c5_some, k_c6_some, k_c7_some, k_c8_some, k_c9_some, k_c10_some, k_c11_some, k_c12_some, k_c13_some, k_c14_some, k_c15_some, k_c16_some, k_c17_some, k_ld_nI, k_st_nI, k_nz_nI, k_bit0, k_bit1, pk_rem, pk_sub, q_nn, q_np, q_pn, q_lnp, q_lpn, q_enp, q_epn, nI_leI, nI_ltI, nI_eq, if_pos, if_neg, ↓reduceIte, s_cell, h0]
  · obtain ⟨t, ht1, ht2, rfl⟩ := q_in_nat (a := 2) (b := 24) (by omega) hx1
    obtain ⟨c', h1, hS', -⟩ := o_rollerC (v := x2) hS (by omega) ht1 ht2 hx2
    refine ⟨nI m, c', _, _, _, ?_, rfl, Or.inr ⟨m, m + 1, by omega, rfl, hS', by omega, rfl, rfl⟩⟩
    unfold p_X6_roller
    rw [l_prep hf, k_c1_some, h1, k_c2_some, s_rec_pos (by omega) hf hk, k_c3_some]
theorem act_run (hS : ST c m) (hm : 2 ≤ m) (hf : f < 7) (hk : k ≤ 6) (x1 x2 x3 x4 x5 x6 tl ta tt : Int32) (tp : Nat → Int32) : ∃ r c' hf' hl' hs' tl' ta' tt' tp', p_X6_run 20000 x1 x2 x3 x4 x5 x6 c (nI f) (nI k) hs tl ta tt tp = some (r, c', hf', hl', hs', tl', ta', tt', tp') ∧ STEP c f k hs r c' hf' hl' hs' := by
  obtain ⟨⟨w, hR⟩, h0, h8⟩ := hS
  rcases o_run (N := 20000) (by omega) 0 0 0 0 0 hR x1 x2 x3 x4 x5 x6 tl ta tt tp with ⟨e, tl', ta', tt', tp', e1, e2, h1, -⟩ | ⟨v, c', w', tl', ta', tt', tp', hv, h1, -, -, hR', hc0⟩
  · refine ⟨-nI e, c, nI f, nI k, _, tl', ta', tt', tp', ?_, rfl, Or.inl ⟨e, e1, by omega, rfl, rfl, rfl, rfl⟩⟩
    unfold p_X6_run
    rw [l_prep hf, k_c1_some, h1, k_c6_some, s_rec_neg e1 (by omega), k_c3_some]
  · refine ⟨nI v, c', _, _, _, tl', ta', tt', tp', ?_, rfl, Or.inr ⟨v, m, by omega, rfl, ⟨⟨_, hR'⟩, hc0.trans h0, h8⟩, hm, rfl, rfl⟩⟩
    unfold p_X6_run
    rw [l_prep hf, k_c1_some, h1, k_c6_some, s_rec_pos (by omega) hf hk, k_c3_some]
-- the first slot alone holds a state
def SLC (sf : Int32) (ss c0 : Nat → Int32) : Prop := sf = nI 1 ∧ ST c0 2 ∧ ∀ i, i < 225 → ss i = c0 i
theorem l_fetch0 {sf : Int32} {ss c0 : Nat → Int32} (hL : SLC sf ss c0) : ∃ c', p_X4_fetch 20000 (nI 0) c sf ss = some (nI 2, c') ∧ ∀ i, i < 225 → c' i = c0 i := by
  obtain ⟨rfl, hS0, hc⟩ := hL
  have e : ∀ i, i < 225 → va_cpy ss c (0 * 225) 0 225 i = c0 i := fun i hi => by
    have := cpy_at (f := ss) (g := c) (a := 0 * 225) (b := 0) hi
    simp only [Nat.zero_mul, Nat.zero_add] at this ⊢
    rw [this, hc i hi]
  refine ⟨va_cpy ss c (0 * 225) 0 225, ?_, e⟩
  unfold p_X4_fetch
  rw [s_outside_t (show q_in (nI 0) (0 : Int32).toInt (1 : Int32).toInt from by unfold q_in; decide), k_c1_some]
  simp only [q_lit]
  rw [if_pos trivial, if_neg (by decide), s_copyFromL (by omega), k_c1_some, s_cell (by omega), k_c1_some, e 0 (by omega), hS0.2.1]
theorem act_restore {sf : Int32} {ss c0 : Nat → Int32} (hL : SLC sf ss c0) (hf : f < 7) (hk : k ≤ 6) (x1 : Int32) : ∃ r c' hf' hl' hs', p_X6_restore 20000 x1 c (nI f) (nI k) hs sf ss = some (r, c', hf', hl', hs') ∧ STEP c f k hs r c' hf' hl' hs' := by
  rcases q_dec x1 0 1 with h1 | h1
  rotate_left
  · exact ⟨_, _, _, _, _, l_restore (l_prep hf c hs (nI k)) (by omega) (by omega) (l_fetch1 h1), rfl, Or.inl ⟨2, by omega, by omega, rfl, rfl, rfl, rfl⟩⟩
  obtain ⟨j, -, hj, rfl⟩ := q_in_nat (a := 0) (b := 1) (by omega) h1
  rcases (show j = 0 ∨ j = 1 by omega) with rfl | rfl
  · obtain ⟨c', h2, hc⟩ := l_fetch0 (c := c) hL
    refine ⟨nI 2, c', _, _, _, ?_, rfl, Or.inr ⟨2, 2, by omega, rfl, ST_congr hc hL.2.1, by omega, rfl, rfl⟩⟩
    unfold p_X6_restore
    rw [l_prep hf, k_c1_some, h2, k_c2_some, s_rec_pos (by omega) hf hk, k_c3_some]
  · refine ⟨_, _, _, _, _, l_restore (e := 5) (l_prep hf c hs (nI k)) (by omega) (by omega) ?_, rfl, Or.inl ⟨5, by omega, by omega, rfl, rfl, rfl, rfl⟩⟩
    obtain ⟨rfl, -⟩ := hL
    unfold p_X4_fetch
    rw [s_outside_t (show q_in (nI 1) (0 : Int32).toInt (1 : Int32).toInt from by unfold q_in; decide), k_c1_some]
    simp only [q_lit]
    rw [if_pos trivial, if_pos (by decide)]
end SP
-- the ring of the states
def HI (hs : Nat → Int32) (f k : Nat) (B : Nat → Nat → Int32) : Prop := f < 7 ∧ k ≤ 6 ∧ ∀ j, j < k → ∀ i, i < 225 → hs ((f + 6 - j) % 7 * 225 + i) = B j i
def hpush (c : Nat → Int32) (B : Nat → Nat → Int32) : Nat → Nat → Int32 := fun j => if j = 0 then c else B (j - 1)
theorem HI_prep {hs c : Nat → Int32} {f k : Nat} {B : Nat → Nat → Int32} (h : HI hs f k B) : HI (va_cpy c hs 0 (f * 225) 225) f k B := by
  obtain ⟨hf, hk, hj⟩ := h
  refine ⟨hf, hk, fun j hjk i hi => ?_⟩
  rw [cpy_out (by omega)]
  exact hj j hjk i hi
theorem HI_rec {hs c : Nat → Int32} {f k : Nat} {B : Nat → Nat → Int32} (h : HI hs f k B) : HI (va_cpy c hs 0 (f * 225) 225) (if f = 6 then 0 else f + 1) (if k = 6 then 6 else k + 1) (hpush c B) := by
  obtain ⟨hf, hk, hj⟩ := h
  refine ⟨by split <;> omega, by split <;> omega, fun j hjk i hi => ?_⟩
  unfold hpush
  by_cases hj0 : j = 0
  · subst hj0
    rw [if_pos rfl, show ((if f = 6 then 0 else f + 1) + 6 - 0) % 7 = f by split <;> omega, cpy_at hi, Nat.zero_add]
  · rw [if_neg hj0, ← hj (j - 1) (by split at hjk <;> omega) i hi]
    have e : ((if f = 6 then 0 else f + 1) + 6 - j) % 7 = (f + 6 - (j - 1)) % 7 := by split at hjk <;> split <;> omega
    rw [e]
    have e2 : (f + 6 - (j - 1)) % 7 ≠ f := by split at hjk <;> omega
    exact cpy_out (by omega)
theorem HI_0 (hs : Nat → Int32) (B : Nat → Nat → Int32) : HI hs 0 0 B := ⟨by omega, by omega, fun j hj => by omega⟩
theorem u_none {c hs : Nat → Int32} {hf : Int32} : p_X6_undo 20000 c hf (nI 0) hs = some (-nI 5, c, hf, nI 0) := by
  unfold p_X6_undo p_X0_stepBack
  simp (disch := omega) only [q_lit, nI_add, pk_mul, k_let_eq, k_c1_some, k_c2_some, k_c3_some, k_c4_some, k_c5_some, k_c6_some, k_c7_some, k_c8_some, k_c9_some, k_c10_some, k_c11_some, k_c12_some, k_c13_some, k_c14_some, k_c15_some, k_c16_some, k_c17_some, k_ld_nI, k_st_nI, k_nz_nI, k_bit0, k_bit1, pk_rem, pk_sub, q_nn, q_np, q_pn, q_lnp, q_lpn, q_enp, q_epn, nI_leI, nI_ltI, nI_eq, if_pos, if_neg, ↓reduceIte]
theorem u_back {hs c : Nat → Int32} {f k : Nat} {B : Nat → Nat → Int32} (h : HI hs f k B) (hk0 : 0 < k) : ∃ c' f', p_X6_undo 20000 c (nI f) (nI k) hs = some (nI (k - 1), c', nI f', nI (k - 1)) ∧ HI hs f' (k - 1) (fun j => B (j + 1)) ∧ ∀ i, i < 225 → c' i = B 0 i := by
  obtain ⟨hf7, hk6, hj⟩ := id h
  have e : va_cpy hs c ((f + 6) % 7 * 225) 0 225 = va_cpy hs c ((if f = 0 then 6 else f - 1) * 225) 0 225 := by
    rw [show (f + 6) % 7 = if f = 0 then 6 else f - 1 by split <;> omega]
  refine ⟨va_cpy hs c ((f + 6) % 7 * 225) 0 225, if f = 0 then 6 else f - 1, ?_, ⟨by split <;> omega, by omega, fun j hjk i hi => ?_⟩, fun i hi => ?_⟩
  · rw [e]
    have hk : ¬ k = 0 := by omega
    unfold p_X6_undo p_X0_stepBack
    by_cases hf0 : f = 0
    · simp (disch := omega) only [q_lit, nI_add, pk_mul, k_let_eq, k_c1_some, k_c2_some, k_c3_some, k_c4_some, k_c5_some, k_c6_some, k_c7_some, k_c8_some, k_c9_some, k_c10_some, k_c11_some, k_c12_some, k_c13_some, k_c14_some, k_c15_some, k_c16_some, k_c17_some, k_ld_nI, k_st_nI, k_nz_nI, k_bit0, k_bit1, pk_rem, pk_sub, q_nn, q_np, q_pn, q_lnp, q_lpn, q_enp, q_epn, nI_leI, nI_ltI, nI_eq, if_pos, if_neg, ↓reduceIte, s_copyFromH, hf0, hk]
    · simp (disch := omega) only [q_lit, nI_add, pk_mul, k_let_eq, k_c1_some, k_c2_some, k_c3_some, k_c4_some, k_c5_some, k_c6_some, k_c7_some, k_c8_some, k_c9_some, k_c10_some, k_c11_some, k_c12_some, k_c13_some, k_c14_some, k_c15_some, k_c16_some, k_c17_some, k_ld_nI, k_st_nI, k_nz_nI, k_bit0, k_bit1, pk_rem, pk_sub, q_nn, q_np, q_pn, q_lnp, q_lpn, q_enp, q_epn, nI_leI, nI_ltI, nI_eq, if_pos, if_neg, ↓reduceIte, s_copyFromH, hf0, hk]
  · have h2 := hj (j + 1) (by omega) i hi
    rw [show (f + 6 - (j + 1)) % 7 = ((if f = 0 then 6 else f - 1) + 6 - j) % 7 by split <;> omega] at h2
    exact h2
  · have := cpy_at (f := hs) (g := c) (a := (f + 6) % 7 * 225) (b := 0) hi
    rw [Nat.zero_add] at this
    rw [this]
    exact hj 0 hk0 i hi
