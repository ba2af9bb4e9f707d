-- THE RELATION of the two programs' states, and the errors that both tell alike
def q_ro (x : Int32) (m : Nat) : Prop := ∃ r : Nat, r < m ∧ x = nI r
theorem q_ro_dec (x : Int32) (m : Nat) : q_ro x m ∨ ¬ q_ro x m := Classical.em _
theorem q_ro_in {x : Int32} {m : Nat} (hm : m < 65536) : q_in x 0 (nI m - nI 1).toInt ↔ q_ro x m := by
  have e : (nI m - nI 1).toInt = (m : Int) - 1 := pk_sub_toInt (by omega) (by omega)
  rw [e]
  constructor
  · intro h
    have h1 := h.1
    have h2 := h.2
    obtain ⟨j, hj, ej⟩ := (q_rng (x := x) (n := m - 1) (by omega)).mp ⟨h1, by omega⟩
    exact ⟨j, by omega, ej⟩
  · rintro ⟨r, hr, rfl⟩
    rw [q_in_nI (by omega)]
    omega
def SRr (c w : Nat → Int32) (r : Nat) : Prop := ∃ t : Nat, 2 ≤ t ∧ t ≤ 24 ∧ c (9 + 27 * r) = nI t ∧ w (9 + 27 * r) = nI t ∧ c (10 + 27 * r) = w (10 + 27 * r) ∧ c (11 + 27 * r) = w (11 + 27 * r) ∧ ∀ k, k < t → c (12 + 27 * r + k) = w (12 + 27 * r + k) ∧ -9 ≤ (w (12 + 27 * r + k)).toInt ∧ (w (12 + 27 * r + k)).toInt ≤ 9
def SRm (c w : Nat → Int32) (m : Nat) : Prop := m ≤ 8 ∧ c 0 = nI m ∧ w 3 = nI m ∧ ∀ r, r < m → SRr c w r
def SRs (c w : Nat → Int32) (th st sl pu we : Nat) : Prop := (1 ≤ th ∧ th ≤ 30 ∧ c 1 = nI th ∧ w 4 = nI th) ∧ (st ≤ 30 ∧ c 2 = nI st ∧ w 5 = nI st) ∧ (c 3 = w 6 ∧ c 4 = w 7 ∧ c 5 = w 8) ∧ (sl ≤ 30 ∧ c 6 = nI sl ∧ w 0 = nI sl) ∧ (pu ≤ 30 ∧ c 7 = nI pu ∧ w 1 = nI pu) ∧ (1 ≤ we ∧ we ≤ 99 ∧ c 8 = nI we ∧ w 2 = nI we)
def SR (c w : Nat → Int32) : Prop := (∃ m, SRm c w m) ∧ ∃ th st sl pu we, SRs c w th st sl pu we
theorem SR_congr {c w c' w' : Nat → Int32} (hc : ∀ i, i < 225 → c' i = c i) (hw : ∀ i, i < 225 → w' i = w i) (h : SR c w) : SR c' w' := by
  obtain ⟨⟨m, h1, h2, h3, h4⟩, th, st, sl, pu, we, ⟨a1, a2, a3, a4⟩, ⟨b1, b2, b3⟩, ⟨c1, c2, c3⟩, ⟨d1, d2, d3⟩, ⟨e1, e2, e3⟩, ⟨f1, f2, f3, f4⟩⟩ := h
  refine ⟨⟨m, h1, by rw [hc _ (by omega)]; exact h2, by rw [hw _ (by omega)]; exact h3, fun r hr => ?_⟩, th, st, sl, pu, we, ?_⟩
  · obtain ⟨t, g1, g2, g3, g4, g5, g6, g7⟩ := h4 r hr
    refine ⟨t, g1, g2, ?_, ?_, ?_, ?_, fun k hk => ?_⟩
    · rw [hc _ (by omega)]; exact g3
    · rw [hw _ (by omega)]; exact g4
    · rw [hc _ (by omega), hw _ (by omega)]; exact g5
    · rw [hc _ (by omega), hw _ (by omega)]; exact g6
    · rw [hc _ (by omega), hw _ (by omega)]; exact g7 k hk
  · unfold SRs
    rw [hc 1 (by omega), hc 2 (by omega), hc 3 (by omega), hc 4 (by omega), hc 5 (by omega), hc 6 (by omega), hc 7 (by omega), hc 8 (by omega), hw 0 (by omega), hw 1 (by omega), hw 2 (by omega), hw 4 (by omega), hw 5 (by omega), hw 6 (by omega), hw 7 (by omega), hw 8 (by omega)]
    exact ⟨⟨a1, a2, a3, a4⟩, ⟨b1, b2, b3⟩, ⟨c1, c2, c3⟩, ⟨d1, d2, d3⟩, ⟨e1, e2, e3⟩, ⟨f1, f2, f3, f4⟩⟩
-- which rollers there are
theorem s_has_t {N m r : Nat} {c : Nat → Int32} (hm : m ≤ 8) (h0 : c 0 = nI m) (hr : r < m) : p_X3_has N (nI r) c = some (nI 1) := by
  unfold p_X3_has
  rw [if_neg (nI_pos (by omega))]
  simp (disch := omega) only [q_lit, nI_add, pk_mul, k_let_eq, k_c1_some, k_c2_some, k_c3_some, k_c4_some, k_c5_some, k_c6_some, k_c7_some, k_c8_some, k_c9_some, k_c10_some, k_c11_some, k_c12_some, k_c13_some, k_c14_some, k_c15_some, k_c16_some, k_c17_some, k_ld_nI, k_st_nI, k_nz_nI, k_bit0, k_bit1, pk_rem, pk_sub, q_nn, q_np, q_pn, q_lnp, q_lpn, q_enp, q_epn, nI_leI, nI_ltI, nI_eq, if_pos, if_neg, ↓reduceIte, s_cell, h0]
theorem s_has_f {N m : Nat} {x : Int32} {c : Nat → Int32} (hm : m ≤ 8) (h0 : c 0 = nI m) (hx : ¬ q_ro x m) : p_X3_has N x c = some (nI 0) := by
  unfold p_X3_has
  by_cases h : x < 0
  · rw [if_pos h]; rfl
  · rw [if_neg h]
    obtain ⟨j, hj, rfl⟩ := nI_of h
    have hjm : m ≤ j := Nat.not_lt.mp fun q => hx ⟨j, q, rfl⟩
    simp (disch := omega) only [q_lit, nI_add, pk_mul, k_let_eq, k_c1_some, k_c2_some, k_c3_some, k_c4_some, k_c5_some, k_c6_some, k_c7_some, k_c8_some, k_c9_some, k_c10_some, k_c11_some, k_c12_some, k_c13_some, k_c14_some, k_c15_some, k_c16_some, k_c17_some, k_ld_nI, k_st_nI, k_nz_nI, k_bit0, k_bit1, pk_rem, pk_sub, q_nn, q_np, q_pn, q_lnp, q_lpn, q_enp, q_epn, nI_leI, nI_ltI, nI_eq, if_pos, if_neg, ↓reduceIte, s_cell, h0]
theorem s_isR_t {N m r : Nat} {w : Nat → Int32} (us up ue ut um : Int32) (hm : m ≤ 8) (h0 : w 3 = nI m) (hr : r < m) : p_X7_isRoller N (nI r) us up ue ut um w = some (nI 1) := by
  unfold p_X7_isRoller
  simp only [q_lit]
  rw [k_ld_nI (by omega) (by omega), h0, s_in_t ((q_ro_in (by omega)).mpr ⟨r, hr, rfl⟩)]
  simp (disch := omega) only [q_lit, nI_add, pk_mul, k_let_eq, k_c1_some, k_c2_some, k_c3_some, k_c4_some, k_c5_some, k_c6_some, k_c7_some, k_c8_some, k_c9_some, k_c10_some, k_c11_some, k_c12_some, k_c13_some, k_c14_some, k_c15_some, k_c16_some, k_c17_some, k_ld_nI, k_st_nI, k_nz_nI, k_bit0, k_bit1, pk_rem, pk_sub, q_nn, q_np, q_pn, q_lnp, q_lpn, q_enp, q_epn, nI_leI, nI_ltI, nI_eq, if_pos, if_neg, ↓reduceIte]
theorem s_isR_f {N m : Nat} {x : Int32} {w : Nat → Int32} (us up ue ut um : Int32) (hm : m ≤ 8) (h0 : w 3 = nI m) (hx : ¬ q_ro x m) : p_X7_isRoller N x us up ue ut um w = some (nI 0) := by
  unfold p_X7_isRoller
  simp only [q_lit]
  rw [k_ld_nI (by omega) (by omega), h0, s_in_f (fun q => hx ((q_ro_in (by omega)).mp q))]
  simp (disch := omega) only [q_lit, nI_add, pk_mul, k_let_eq, k_c1_some, k_c2_some, k_c3_some, k_c4_some, k_c5_some, k_c6_some, k_c7_some, k_c8_some, k_c9_some, k_c10_some, k_c11_some, k_c12_some, k_c13_some, k_c14_some, k_c15_some, k_c16_some, k_c17_some, k_ld_nI, k_st_nI, k_nz_nI, k_bit0, k_bit1, pk_rem, pk_sub, q_nn, q_np, q_pn, q_lnp, q_lpn, q_enp, q_epn, nI_leI, nI_ltI, nI_eq, if_pos, if_neg, ↓reduceIte]
theorem s_hasT_t {N m r t k : Nat} {c : Nat → Int32} (hm : m ≤ 8) (h0 : c 0 = nI m) (hr : r < m) (ht : t ≤ 24) (h1 : c (9 + 27 * r) = nI t) (hk : k < t) : p_X3_hasTooth N (nI r) (nI k) c = some (nI 1) := by
  unfold p_X3_hasTooth
  rw [s_has_t hm h0 hr]
  simp (disch := omega) only [q_lit, nI_add, pk_mul, k_let_eq, k_c1_some, k_c2_some, k_c3_some, k_c4_some, k_c5_some, k_c6_some, k_c7_some, k_c8_some, k_c9_some, k_c10_some, k_c11_some, k_c12_some, k_c13_some, k_c14_some, k_c15_some, k_c16_some, k_c17_some, k_ld_nI, k_st_nI, k_nz_nI, k_bit0, k_bit1, pk_rem, pk_sub, q_nn, q_np, q_pn, q_lnp, q_lpn, q_enp, q_epn, nI_leI, nI_ltI, nI_eq, if_pos, if_neg, ↓reduceIte, s_teeth, h1]
theorem s_hasT_f1 {N m : Nat} {x y : Int32} {c : Nat → Int32} (hm : m ≤ 8) (h0 : c 0 = nI m) (hx : ¬ q_ro x m) : p_X3_hasTooth N x y c = some (nI 0) := by
  unfold p_X3_hasTooth
  rw [s_has_f hm h0 hx]
  simp (disch := omega) only [q_lit, nI_add, pk_mul, k_let_eq, k_c1_some, k_c2_some, k_c3_some, k_c4_some, k_c5_some, k_c6_some, k_c7_some, k_c8_some, k_c9_some, k_c10_some, k_c11_some, k_c12_some, k_c13_some, k_c14_some, k_c15_some, k_c16_some, k_c17_some, k_ld_nI, k_st_nI, k_nz_nI, k_bit0, k_bit1, pk_rem, pk_sub, q_nn, q_np, q_pn, q_lnp, q_lpn, q_enp, q_epn, nI_leI, nI_ltI, nI_eq, if_pos, if_neg, ↓reduceIte]
theorem s_hasT_f2 {N m r t : Nat} {y : Int32} {c : Nat → Int32} (hm : m ≤ 8) (h0 : c 0 = nI m) (hr : r < m) (ht : t ≤ 24) (h1 : c (9 + 27 * r) = nI t) (hy : ¬ q_ro y t) : p_X3_hasTooth N (nI r) y c = some (nI 0) := by
  unfold p_X3_hasTooth
  rw [s_has_t hm h0 hr, k_c1_some, if_neg (by decide)]
  by_cases h : y < 0
  · rw [if_pos h]; rfl
  · rw [if_neg h]
    obtain ⟨j, hj, rfl⟩ := nI_of h
    have hjm : t ≤ j := Nat.not_lt.mp fun q => hy ⟨j, q, rfl⟩
    simp (disch := omega) only [q_lit, nI_add, pk_mul, k_let_eq, k_c1_some, k_c2_some, k_c3_some, k_c4_some, k_c5_some, k_c6_some, k_c7_some, k_c8_some, k_c9_some, k_c10_some, k_c11_some, k_c12_some, k_c13_some, k_c14_some, k_c15_some, k_c16_some, k_c17_some, k_ld_nI, k_st_nI, k_nz_nI, k_bit0, k_bit1, pk_rem, pk_sub, q_nn, q_np, q_pn, q_lnp, q_lpn, q_enp, q_epn, nI_leI, nI_ltI, nI_eq, if_pos, if_neg, ↓reduceIte, s_teeth, h1]
theorem s_isT_t {N m r t k : Nat} {w : Nat → Int32} (us up ue ut um : Int32) (hm : m ≤ 8) (h0 : w 3 = nI m) (hr : r < m) (ht : t ≤ 24) (h1 : w (9 + 27 * r) = nI t) (hk : k < t) : p_X7_isTooth N (nI r) (nI k) us up ue ut um w = some (nI 1) := by
  unfold p_X7_isTooth
  rw [s_isR_t us up ue ut um hm h0 hr, k_c1_some, if_neg (by decide)]
  simp only [q_lit]
  rw [s_ofR (by omega) (by omega), k_c1_some, Nat.add_zero, h1, s_in_t (by exact (q_ro_in (by omega)).mpr ⟨k, hk, rfl⟩)]
  simp (disch := omega) only [q_lit, nI_add, pk_mul, k_let_eq, k_c1_some, k_c2_some, k_c3_some, k_c4_some, k_c5_some, k_c6_some, k_c7_some, k_c8_some, k_c9_some, k_c10_some, k_c11_some, k_c12_some, k_c13_some, k_c14_some, k_c15_some, k_c16_some, k_c17_some, k_ld_nI, k_st_nI, k_nz_nI, k_bit0, k_bit1, pk_rem, pk_sub, q_nn, q_np, q_pn, q_lnp, q_lpn, q_enp, q_epn, nI_leI, nI_ltI, nI_eq, if_pos, if_neg, ↓reduceIte]
theorem s_isT_f1 {N m : Nat} {x y : Int32} {w : Nat → Int32} (us up ue ut um : Int32) (hm : m ≤ 8) (h0 : w 3 = nI m) (hx : ¬ q_ro x m) : p_X7_isTooth N x y us up ue ut um w = some (nI 0) := by
  unfold p_X7_isTooth
  rw [s_isR_f us up ue ut um hm h0 hx]
  simp (disch := omega) only [q_lit, nI_add, pk_mul, k_let_eq, k_c1_some, k_c2_some, k_c3_some, k_c4_some, k_c5_some, k_c6_some, k_c7_some, k_c8_some, k_c9_some, k_c10_some, k_c11_some, k_c12_some, k_c13_some, k_c14_some, k_c15_some, k_c16_some, k_c17_some, k_ld_nI, k_st_nI, k_nz_nI, k_bit0, k_bit1, pk_rem, pk_sub, q_nn, q_np, q_pn, q_lnp, q_lpn, q_enp, q_epn, nI_leI, nI_ltI, nI_eq, if_pos, if_neg, ↓reduceIte]
theorem s_isT_f2 {N m r t : Nat} {y : Int32} {w : Nat → Int32} (us up ue ut um : Int32) (hm : m ≤ 8) (h0 : w 3 = nI m) (hr : r < m) (ht : t ≤ 24) (h1 : w (9 + 27 * r) = nI t) (hy : ¬ q_ro y t) : p_X7_isTooth N (nI r) y us up ue ut um w = some (nI 0) := by
  unfold p_X7_isTooth
  rw [s_isR_t us up ue ut um hm h0 hr, k_c1_some, if_neg (by decide)]
  simp only [q_lit]
  rw [s_ofR (by omega) (by omega), k_c1_some, Nat.add_zero, h1, s_in_f (fun q => hy ((q_ro_in (by omega)).mp q))]
  simp (disch := omega) only [q_lit, nI_add, pk_mul, k_let_eq, k_c1_some, k_c2_some, k_c3_some, k_c4_some, k_c5_some, k_c6_some, k_c7_some, k_c8_some, k_c9_some, k_c10_some, k_c11_some, k_c12_some, k_c13_some, k_c14_some, k_c15_some, k_c16_some, k_c17_some, k_ld_nI, k_st_nI, k_nz_nI, k_bit0, k_bit1, pk_rem, pk_sub, q_nn, q_np, q_pn, q_lnp, q_lpn, q_enp, q_epn, nI_leI, nI_ltI, nI_eq, if_pos, if_neg, ↓reduceIte]
-- the errors of pairs
theorem s_err {N m : Nat} {c w : Nat → Int32} (us up ue ut um : Int32) (hm : SRm c w m) (x1 x2 x3 x4 : Int32) :
    (∃ e : Nat, 1 ≤ e ∧ e ≤ 2 ∧ p_X6_pairError N x1 x2 x3 x4 c = some (-nI e) ∧ p_X7_pairError N x1 x2 x3 x4 us up ue ut um w = some (-nI e)) ∨
    (∃ u l o g : Nat, u < m ∧ l < m ∧ u ≠ l ∧ o ≤ 23 ∧ g ≤ 30 ∧ x1 = nI u ∧ x2 = nI l ∧ x3 = nI o ∧ x4 = nI g ∧ p_X6_pairError N x1 x2 x3 x4 c = some (nI 0) ∧ p_X7_pairError N x1 x2 x3 x4 us up ue ut um w = some (nI 0)) := by
  obtain ⟨h8, h0, h0', -⟩ := hm
  unfold p_X6_pairError p_X7_pairError
  rcases q_ro_dec x1 m with ⟨u, hu, rfl⟩ | h1
  rotate_left
  · left
    refine ⟨1, by omega, by omega, ?_, ?_⟩
    · rw [s_has_f h8 h0 h1]; simp (disch := omega) only [q_lit, nI_add, pk_mul, k_let_eq, k_c1_some, k_c2_some, k_c3_some, k_c4_some, k_c5_some, k_c6_some, k_c7_some, k_c8_some, k_c9_some, k_c10_some, k_c11_some, k_c12_some, k_c13_some, k_c14_some, k_c15_some, k_c16_some, k_c17_some, k_ld_nI, k_st_nI, k_nz_nI, k_bit0, k_bit1, pk_rem, pk_sub, q_nn, q_np, q_pn, q_lnp, q_lpn, q_enp, q_epn, nI_leI, nI_ltI, nI_eq, if_pos, if_neg, ↓reduceIte]
    · rw [s_isR_f us up ue ut um h8 h0' h1]; simp (disch := omega) only [q_lit, nI_add, pk_mul, k_let_eq, k_c1_some, k_c2_some, k_c3_some, k_c4_some, k_c5_some, k_c6_some, k_c7_some, k_c8_some, k_c9_some, k_c10_some, k_c11_some, k_c12_some, k_c13_some, k_c14_some, k_c15_some, k_c16_some, k_c17_some, k_ld_nI, k_st_nI, k_nz_nI, k_bit0, k_bit1, pk_rem, pk_sub, q_nn, q_np, q_pn, q_lnp, q_lpn, q_enp, q_epn, nI_leI, nI_ltI, nI_eq, if_pos, if_neg, ↓reduceIte]
  rcases q_ro_dec x2 m with ⟨l, hl, rfl⟩ | h2
  rotate_left
  · left
    refine ⟨1, by omega, by omega, ?_, ?_⟩
    · rw [s_has_t h8 h0 hu, s_has_f h8 h0 h2]; simp (disch := omega) only [q_lit, nI_add, pk_mul, k_let_eq, k_c1_some, k_c2_some, k_c3_some, k_c4_some, k_c5_some, k_c6_some, k_c7_some, k_c8_some, k_c9_some, k_c10_some, k_c11_some, k_c12_some, k_c13_some, k_c14_some, k_c15_some, k_c16_some, k_c17_some, k_ld_nI, k_st_nI, k_nz_nI, k_bit0, k_bit1, pk_rem, pk_sub, q_nn, q_np, q_pn, q_lnp, q_lpn, q_enp, q_epn, nI_leI, nI_ltI, nI_eq, if_pos, if_neg, ↓reduceIte]
    · rw [s_isR_t us up ue ut um h8 h0' hu, s_isR_f us up ue ut um h8 h0' h2]; simp (disch := omega) only [q_lit, nI_add, pk_mul, k_let_eq, k_c1_some, k_c2_some, k_c3_some, k_c4_some, k_c5_some, k_c6_some, k_c7_some, k_c8_some, k_c9_some, k_c10_some, k_c11_some, k_c12_some, k_c13_some, k_c14_some, k_c15_some, k_c16_some, k_c17_some, k_ld_nI, k_st_nI, k_nz_nI, k_bit0, k_bit1, pk_rem, pk_sub, q_nn, q_np, q_pn, q_lnp, q_lpn, q_enp, q_epn, nI_leI, nI_ltI, nI_eq, if_pos, if_neg, ↓reduceIte]
  rw [s_has_t h8 h0 hu, s_has_t h8 h0 hl, s_isR_t us up ue ut um h8 h0' hu, s_isR_t us up ue ut um h8 h0' hl]
  by_cases hul : u = l
  · left
    subst hul
    refine ⟨2, by omega, by omega, ?_, ?_⟩
    · simp (disch := omega) only [q_lit, nI_add, pk_mul, k_let_eq, k_c1_some, k_c2_some, k_c3_some, k_c4_some, k_c5_some, k_c6_some, k_c7_some, k_c8_some, k_c9_some, k_c10_some, k_c11_some, k_c12_some, k_c13_some, k_c14_some, k_c15_some, k_c16_some, k_c17_some, k_ld_nI, k_st_nI, k_nz_nI, k_bit0, k_bit1, pk_rem, pk_sub, q_nn, q_np, q_pn, q_lnp, q_lpn, q_enp, q_epn, nI_leI, nI_ltI, nI_eq, if_pos, if_neg, ↓reduceIte]
    · simp (disch := omega) only [q_lit, nI_add, pk_mul, k_let_eq, k_c1_some, k_c2_some, k_c3_some, k_c4_some, k_c5_some, k_c6_some, k_c7_some, k_c8_some, k_c9_some, k_c10_some, k_c11_some, k_c12_some, k_c13_some, k_c14_some, k_c15_some, k_c16_some, k_c17_some, k_ld_nI, k_st_nI, k_nz_nI, k_bit0, k_bit1, pk_rem, pk_sub, q_nn, q_np, q_pn, q_lnp, q_lpn, q_enp, q_epn, nI_leI, nI_ltI, nI_eq, if_pos, if_neg, ↓reduceIte]
  have hne : ¬ nI u = nI l := fun q => hul ((nI_eq (by omega) (by omega)).mp q)
  rcases q_dec x3 0 23 with h3 | h3
  rotate_left
  · left
    refine ⟨2, by omega, by omega, ?_, ?_⟩
    · rw [s_outside_f (show ¬ q_in x3 (0 : Int32).toInt (23 : Int32).toInt from h3)]; simp (disch := omega) only [q_lit, nI_add, pk_mul, k_let_eq, k_c1_some, k_c2_some, k_c3_some, k_c4_some, k_c5_some, k_c6_some, k_c7_some, k_c8_some, k_c9_some, k_c10_some, k_c11_some, k_c12_some, k_c13_some, k_c14_some, k_c15_some, k_c16_some, k_c17_some, k_ld_nI, k_st_nI, k_nz_nI, k_bit0, k_bit1, pk_rem, pk_sub, q_nn, q_np, q_pn, q_lnp, q_lpn, q_enp, q_epn, nI_leI, nI_ltI, nI_eq, if_pos, if_neg, ↓reduceIte, hne]
    · rw [s_in_f (show ¬ q_in x3 (0 : Int32).toInt (23 : Int32).toInt from h3)]; simp (disch := omega) only [q_lit, nI_add, pk_mul, k_let_eq, k_c1_some, k_c2_some, k_c3_some, k_c4_some, k_c5_some, k_c6_some, k_c7_some, k_c8_some, k_c9_some, k_c10_some, k_c11_some, k_c12_some, k_c13_some, k_c14_some, k_c15_some, k_c16_some, k_c17_some, k_ld_nI, k_st_nI, k_nz_nI, k_bit0, k_bit1, pk_rem, pk_sub, q_nn, q_np, q_pn, q_lnp, q_lpn, q_enp, q_epn, nI_leI, nI_ltI, nI_eq, if_pos, if_neg, ↓reduceIte, hne]
  rcases q_dec x4 0 30 with h4 | h4
  rotate_left
  · left
    refine ⟨2, by omega, by omega, ?_, ?_⟩
    · rw [s_outside_t (show q_in x3 (0 : Int32).toInt (23 : Int32).toInt from h3), s_outside_f (show ¬ q_in x4 (0 : Int32).toInt (30 : Int32).toInt from h4)]; simp (disch := omega) only [q_lit, nI_add, pk_mul, k_let_eq, k_c1_some, k_c2_some, k_c3_some, k_c4_some, k_c5_some, k_c6_some, k_c7_some, k_c8_some, k_c9_some, k_c10_some, k_c11_some, k_c12_some, k_c13_some, k_c14_some, k_c15_some, k_c16_some, k_c17_some, k_ld_nI, k_st_nI, k_nz_nI, k_bit0, k_bit1, pk_rem, pk_sub, q_nn, q_np, q_pn, q_lnp, q_lpn, q_enp, q_epn, nI_leI, nI_ltI, nI_eq, if_pos, if_neg, ↓reduceIte, hne]
    · rw [s_in_t (show q_in x3 (0 : Int32).toInt (23 : Int32).toInt from h3), s_in_f (show ¬ q_in x4 (0 : Int32).toInt (30 : Int32).toInt from h4)]; simp (disch := omega) only [q_lit, nI_add, pk_mul, k_let_eq, k_c1_some, k_c2_some, k_c3_some, k_c4_some, k_c5_some, k_c6_some, k_c7_some, k_c8_some, k_c9_some, k_c10_some, k_c11_some, k_c12_some, k_c13_some, k_c14_some, k_c15_some, k_c16_some, k_c17_some, k_ld_nI, k_st_nI, k_nz_nI, k_bit0, k_bit1, pk_rem, pk_sub, q_nn, q_np, q_pn, q_lnp, q_lpn, q_enp, q_epn, nI_leI, nI_ltI, nI_eq, if_pos, if_neg, ↓reduceIte, hne]
  right
  obtain ⟨o, -, ho, eo⟩ := q_in_nat (a := 0) (b := 23) (by omega) h3
  obtain ⟨g, -, hg, eg⟩ := q_in_nat (a := 0) (b := 30) (by omega) h4
  refine ⟨u, l, o, g, hu, hl, hul, ho, hg, rfl, rfl, eo, eg, ?_, ?_⟩
  · rw [s_outside_t (show q_in x3 (0 : Int32).toInt (23 : Int32).toInt from h3), s_outside_t (show q_in x4 (0 : Int32).toInt (30 : Int32).toInt from h4)]; simp (disch := omega) only [q_lit, nI_add, pk_mul, k_let_eq, k_c1_some, k_c2_some, k_c3_some, k_c4_some, k_c5_some, k_c6_some, k_c7_some, k_c8_some, k_c9_some, k_c10_some, k_c11_some, k_c12_some, k_c13_some, k_c14_some, k_c15_some, k_c16_some, k_c17_some, k_ld_nI, k_st_nI, k_nz_nI, k_bit0, k_bit1, pk_rem, pk_sub, q_nn, q_np, q_pn, q_lnp, q_lpn, q_enp, q_epn, nI_leI, nI_ltI, nI_eq, if_pos, if_neg, ↓reduceIte, hne]
  · rw [s_in_t (show q_in x3 (0 : Int32).toInt (23 : Int32).toInt from h3), s_in_t (show q_in x4 (0 : Int32).toInt (30 : Int32).toInt from h4)]; simp (disch := omega) only [q_lit, nI_add, pk_mul, k_let_eq, k_c1_some, k_c2_some, k_c3_some, k_c4_some, k_c5_some, k_c6_some, k_c7_some, k_c8_some, k_c9_some, k_c10_some, k_c11_some, k_c12_some, k_c13_some, k_c14_some, k_c15_some, k_c16_some, k_c17_some, k_ld_nI, k_st_nI, k_nz_nI, k_bit0, k_bit1, pk_rem, pk_sub, q_nn, q_np, q_pn, q_lnp, q_lpn, q_enp, q_epn, nI_leI, nI_ltI, nI_eq, if_pos, if_neg, ↓reduceIte, hne]
