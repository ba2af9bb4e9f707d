-- rollers that come, go, are worn
theorem SRr_eq {c w c' w' : Nat → Int32} {r r' : Nat} (hc : ∀ j, j < 27 → c' (9 + 27 * r' + j) = c (9 + 27 * r + j)) (hw : ∀ j, j < 27 → w' (9 + 27 * r' + j) = w (9 + 27 * r + j)) (h : SRr c w r) : SRr c' w' r' := by
  obtain ⟨t, t1, t2, t3, t4, t5, t6, t7⟩ := h
  have hc0 : c' (9 + 27 * r') = c (9 + 27 * r) := hc 0 (by omega)
  have hw0 : w' (9 + 27 * r') = w (9 + 27 * r) := hw 0 (by omega)
  have hc1 : c' (10 + 27 * r') = c (10 + 27 * r) := by
    have := hc 1 (by omega); rw [show 9 + 27 * r' + 1 = 10 + 27 * r' by omega, show 9 + 27 * r + 1 = 10 + 27 * r by omega] at this; exact this
  have hw1 : w' (10 + 27 * r') = w (10 + 27 * r) := by
    have := hw 1 (by omega); rw [show 9 + 27 * r' + 1 = 10 + 27 * r' by omega, show 9 + 27 * r + 1 = 10 + 27 * r by omega] at this; exact this
  have hc2 : c' (11 + 27 * r') = c (11 + 27 * r) := by
    have := hc 2 (by omega); rw [show 9 + 27 * r' + 2 = 11 + 27 * r' by omega, show 9 + 27 * r + 2 = 11 + 27 * r by omega] at this; exact this
  have hw2 : w' (11 + 27 * r') = w (11 + 27 * r) := by
    have := hw 2 (by omega); rw [show 9 + 27 * r' + 2 = 11 + 27 * r' by omega, show 9 + 27 * r + 2 = 11 + 27 * r by omega] at this; exact this
  refine ⟨t, t1, t2, by rw [hc0]; exact t3, by rw [hw0]; exact t4, by rw [hc1, hw1]; exact t5, by rw [hc2, hw2]; exact t6, fun k hk => ?_⟩
  have h1 := hc (3 + k) (by omega)
  have h2 := hw (3 + k) (by omega)
  rw [show 9 + 27 * r' + (3 + k) = 12 + 27 * r' + k by omega, show 9 + 27 * r + (3 + k) = 12 + 27 * r + k by omega] at h1 h2
  rw [h1, h2]
  exact t7 k hk
-- melt
def sp_shift (c : Nat → Int32) (p e : Nat) : Nat → Int32 := fun i => if p ≤ i ∧ i < e then c (i + 27) else c i
theorem sp_shift_0 (c : Nat → Int32) (p : Nat) : sp_shift c p p = c := by
  funext j
  unfold sp_shift
  rw [if_neg (by omega)]
theorem sp_shift_step (c : Nat → Int32) {p i : Nat} (h : p ≤ i) : upd (sp_shift c p i) i (sp_shift c p i (i + 27)) = sp_shift c p (i + 1) := by
  funext j
  by_cases hj : j = i
  · subst hj
    rw [q_us]
    unfold sp_shift
    rw [if_neg (by omega), if_pos (by omega)]
  · rw [q_un hj]
    unfold sp_shift
    by_cases h2 : p ≤ j ∧ j < i
    · rw [if_pos h2, if_pos (by omega)]
    · rw [if_neg h2, if_neg (by omega)]
theorem s_melt_loop {N q p : Nat} (c : Nat → Int32) (hq : q < 8) : ∀ n i : Nat, p ≤ i → i ≤ 9 + 27 * q → 9 + 27 * q - i < n → f_X3_meltRoller_23 N n (nI q) (nI i) (sp_shift c p i) = some (nI q, upd (sp_shift c p (9 + 27 * q)) 0 (nI q)) := by
  intro n
  induction n with
  | zero => intro i h1 h2 h3; omega
  | succ n ih =>
    intro i h1 h2 h3
    show b_X3_meltRoller_23 N (f_X3_meltRoller_23 N n) (nI q) (nI i) (sp_shift c p i) = _
    unfold b_X3_meltRoller_23
    rw [s_placeOf, k_c1_some]
    by_cases hi : i = 9 + 27 * q
    · rw [if_pos (by rw [nI_leI (by omega) (by omega)]; omega), hi]
      simp only [q_lit]
      rw [s_change (by omega), k_c1_some]
    · rw [if_neg (by rw [nI_leI (by omega) (by omega)]; omega)]
      simp only [q_lit, nI_add]
      rw [s_cell (by omega), k_c1_some, s_change (by omega), k_c1_some, k_let_eq, sp_shift_step c h1]
      exact ih (i + 1) (by omega) (by omega) (by omega)
theorem s_rmelt_loop {N q p : Nat} (us up ue ut um : Int32) (w : Nat → Int32) (hq : q < 8) (hp : 9 ≤ p) (h3 : w 3 = nI q) : ∀ n i : Nat, p ≤ i → i ≤ 9 + 27 * q → 9 + 27 * q - i < n → f_X7_melts_18 N n (nI i) us up ue ut um (sp_shift w p i) = some (nI q, sp_shift w p (9 + 27 * q)) := by
  intro n
  induction n with
  | zero => intro i h1 h2 h3; omega
  | succ n ih =>
    intro i h1 h2 h4
    show b_X7_melts_18 N (f_X7_melts_18 N n) (nI i) us up ue ut um (sp_shift w p i) = _
    unfold b_X7_melts_18
    have e3 : sp_shift w p i 3 = nI q := by unfold sp_shift; rw [if_neg (by omega)]; exact h3
    simp only [q_lit]
    rw [k_ld_nI (by omega) (by omega), e3]
    simp only [pk_mul, nI_add]
    by_cases hi : i = 9 + 27 * q
    · rw [if_pos (by rw [nI_leI (by omega) (by omega)]; omega), k_ld_nI (by omega) (by omega), e3, hi]
    · rw [if_neg (by rw [nI_leI (by omega) (by omega)]; omega), k_ld_nI (by omega) (by omega), k_st_nI (by omega) (by omega), k_let_eq, sp_shift_step w h1]
      exact ih (i + 1) (by omega) (by omega) (by omega)
theorem o_melt {N : Nat} {c w : Nat → Int32} (hN : 20000 ≤ N) (us up ue ut um : Int32) (hR : SR c w) (x1 : Int32) :
    (p_X3_meltRoller N x1 c = some (-nI 1, c) ∧ p_X7_isRoller N x1 us up ue ut um w = some (nI 0)) ∨
    (∃ v : Nat, ∃ c' w' : Nat → Int32, v ≤ 8 ∧ p_X3_meltRoller N x1 c = some (nI v, c') ∧ p_X7_isRoller N x1 us up ue ut um w = some (nI 1) ∧ (∀ us' : Int32, p_X7_melts N x1 us' up ue ut um w = some (nI v, w')) ∧ SR c' w') := by
  obtain ⟨⟨m, hm⟩, th, st, sl, pu, we, hs⟩ := id hR
  obtain ⟨h8, h0, h3, hr⟩ := id hm
  unfold p_X3_meltRoller
  rcases q_ro_dec x1 m with ⟨r, hrm, rfl⟩ | h1
  rotate_left
  · left
    rw [s_has_f h8 h0 h1, s_isR_f us up ue ut um h8 h3 h1]
    refine ⟨?_, rfl⟩
    simp (disch := omega) only [q_lit, nI_add, pk_mul, k_let_eq, k_c1_some, k_c2_some, k_c3_some, k_c4_some, k_c5_some, k_c6_some, k_c7_some, k_c8_some, k_c9_some, k_c10_some, k_c11_some, k_c12_some, k_c13_some, k_c14_some, k_c15_some, k_c16_some, k_c17_some, k_ld_nI, k_st_nI, k_nz_nI, k_bit0, k_bit1, pk_rem, pk_sub, q_nn, q_np, q_pn, q_lnp, q_lpn, q_enp, q_epn, nI_leI, nI_ltI, nI_eq, if_pos, if_neg, ↓reduceIte]
  right
  rw [s_has_t h8 h0 hrm, s_isR_t us up ue ut um h8 h3 hrm]
  have el := s_melt_loop (N := N) (q := m - 1) (p := 9 + 27 * r) c (by omega) N (9 + 27 * r) (by omega) (by omega) (by omega)
  rw [sp_shift_0] at el
  refine ⟨m - 1, upd (sp_shift c (9 + 27 * r) (9 + 27 * (m - 1))) 0 (nI (m - 1)), sp_shift (upd w 3 (nI (m - 1))) (9 + 27 * r) (9 + 27 * (m - 1)), by omega, ?_, rfl, fun us' => ?_, ?_⟩
  rotate_left
  · have er := s_rmelt_loop (N := N) (q := m - 1) (p := 9 + 27 * r) us' up ue ut um (upd w 3 (nI (m - 1))) (by omega) (by omega) (q_us _ _ _) N (9 + 27 * r) (by omega) (by omega) (by omega)
    rw [sp_shift_0] at er
    unfold p_X7_melts
    simp (disch := omega) only [q_lit, nI_add, pk_mul, k_let_eq, k_c1_some, k_c2_some, k_c3_some, k_c4_some, k_c5_some, k_c6_some, k_c7_some, k_c8_some, k_c9_some, k_c10_some, k_c11_some, k_c12_some, k_c13_some, k_c14_some, k_c15_some, k_c16_some, k_c17_some, k_ld_nI, k_st_nI, k_nz_nI, k_bit0, k_bit1, pk_rem, pk_sub, q_nn, q_np, q_pn, q_lnp, q_lpn, q_enp, q_epn, nI_leI, nI_ltI, nI_eq, if_pos, if_neg, ↓reduceIte, h3]
    exact er
  rotate_left
  · simp (disch := omega) only [q_lit, nI_add, pk_mul, k_let_eq, k_c1_some, k_c2_some, k_c3_some, k_c4_some, k_c5_some, k_c6_some, k_c7_some, k_c8_some, k_c9_some, k_c10_some, k_c11_some, k_c12_some, k_c13_some, k_c14_some, k_c15_some, k_c16_some, k_c17_some, k_ld_nI, k_st_nI, k_nz_nI, k_bit0, k_bit1, pk_rem, pk_sub, q_nn, q_np, q_pn, q_lnp, q_lpn, q_enp, q_epn, nI_leI, nI_ltI, nI_eq, if_pos, if_neg, ↓reduceIte, s_cell, h0, s_placeOf]
    exact el
  refine ⟨⟨m - 1, by omega, q_us _ _ _, ?_, fun r' hr' => ?_⟩, th, st, sl, pu, we, ?_⟩
  · unfold sp_shift
    rw [if_neg (by omega), q_us]
  · by_cases hrr : r' < r
    · refine SRr_eq (r := r') (fun j hj => ?_) (fun j hj => ?_) (hr r' (by omega))
      · rw [q_un (by omega)]; unfold sp_shift; rw [if_neg (by omega)]
      · unfold sp_shift; rw [if_neg (by omega), q_un (by omega)]
    · refine SRr_eq (r := r' + 1) (fun j hj => ?_) (fun j hj => ?_) (hr (r' + 1) (by omega))
      · rw [q_un (by omega)]; unfold sp_shift; rw [if_pos (by omega), show 9 + 27 * r' + j + 27 = 9 + 27 * (r' + 1) + j by omega]
      · unfold sp_shift; rw [if_pos (by omega), q_un (by omega), show 9 + 27 * r' + j + 27 = 9 + 27 * (r' + 1) + j by omega]
  · have e1 : ∀ i, i ≠ 0 → i < 9 → upd (sp_shift c (9 + 27 * r) (9 + 27 * (m - 1))) 0 (nI (m - 1)) i = c i := fun i h1 h2 => by
      rw [q_un h1]; unfold sp_shift; rw [if_neg (by omega)]
    have e2 : ∀ i, i ≠ 3 → i < 9 → sp_shift (upd w 3 (nI (m - 1))) (9 + 27 * r) (9 + 27 * (m - 1)) i = w i := fun i h1 h2 => by
      unfold sp_shift; rw [if_neg (by omega), q_un h1]
    unfold SRs
    rw [e1 1 (by omega) (by omega), e1 2 (by omega) (by omega), e1 3 (by omega) (by omega), e1 4 (by omega) (by omega), e1 5 (by omega) (by omega), e1 6 (by omega) (by omega), e1 7 (by omega) (by omega), e1 8 (by omega) (by omega), e2 0 (by omega) (by omega), e2 1 (by omega) (by omega), e2 2 (by omega) (by omega), e2 4 (by omega) (by omega), e2 5 (by omega) (by omega), e2 6 (by omega) (by omega), e2 7 (by omega) (by omega), e2 8 (by omega) (by omega)]
    exact hs
-- a roller comes
def sp_fill (c : Nat → Int32) (p k : Nat) (f : Nat → Int32) : Nat → Int32 := fun i => if p ≤ i ∧ i < p + k then f (i - p) else c i
theorem sp_fill_0 (c : Nat → Int32) (p : Nat) (f : Nat → Int32) : sp_fill c p 0 f = c := by
  funext j
  unfold sp_fill
  rw [if_neg (by omega)]
theorem sp_fill_step (c : Nat → Int32) (p k : Nat) (f : Nat → Int32) : upd (sp_fill c p k f) (p + k) (f k) = sp_fill c p (k + 1) f := by
  funext j
  by_cases hj : j = p + k
  · subst hj
    rw [q_us]
    unfold sp_fill
    rw [if_pos (by omega), Nat.add_sub_cancel_left]
  · rw [q_un hj]
    unfold sp_fill
    by_cases h2 : p ≤ j ∧ j < p + k
    · rw [if_pos h2, if_pos (by omega)]
    · rw [if_neg h2, if_neg (by omega)]
theorem sp_fill_out {c : Nat → Int32} {p k i : Nat} {f : Nat → Int32} (h : i < p ∨ p + k ≤ i) : sp_fill c p k f i = c i := by
  unfold sp_fill
  rw [if_neg (by omega)]
theorem sp_fill_in {c : Nat → Int32} {p k i : Nat} {f : Nat → Int32} (h : i < k) : sp_fill c p k f (p + i) = f i := by
  unfold sp_fill
  rw [if_pos (by omega), Nat.add_sub_cancel_left]
theorem SR_add {c w c' w' : Nat → Int32} {m : Nat} (h : SR c w) (h0 : c 0 = nI m) (hm8 : m < 8) (hc0 : c' 0 = nI (m + 1)) (hc : ∀ i, i ≠ 0 → i < 9 + 27 * m → c' i = c i) (hw3 : w' 3 = nI (m + 1)) (hw : ∀ i, i ≠ 3 → i < 9 + 27 * m → w' i = w i) (hr : SRr c' w' m) : SR c' w' := by
  obtain ⟨⟨m', h1, h2, h3, h4⟩, th, st, sl, pu, we, hs⟩ := h
  have e : m' = m := (nI_eq (by omega) (by omega)).mp (h2.symm.trans h0)
  subst e
  refine ⟨⟨m' + 1, by omega, hc0, hw3, fun r hrm => ?_⟩, th, st, sl, pu, we, ?_⟩
  · by_cases hrr : r = m'
    · rw [hrr]; exact hr
    · exact SRr_eq (r := r) (fun j hj => hc _ (by omega) (by omega)) (fun j hj => hw _ (by omega) (by omega)) (h4 r (by omega))
  · unfold SRs
    rw [hc 1 (by omega) (by omega), hc 2 (by omega) (by omega), hc 3 (by omega) (by omega), hc 4 (by omega) (by omega), hc 5 (by omega) (by omega), hc 6 (by omega) (by omega), hc 7 (by omega) (by omega), hc 8 (by omega) (by omega), hw 0 (by omega) (by omega), hw 1 (by omega) (by omega), hw 2 (by omega) (by omega), hw 4 (by omega) (by omega), hw 5 (by omega) (by omega), hw 6 (by omega) (by omega), hw 7 (by omega) (by omega), hw 8 (by omega) (by omega)]
    exact hs
theorem s_add_loop {N m t : Nat} {v : Int32} (c : Nat → Int32) (hm : m < 8) (ht : t ≤ 24) (h0 : c 0 = nI m) : ∀ n k : Nat, k ≤ t → t - k < n → f_X3_addRoller_75 N n (nI t) v (nI m) (nI k) (sp_fill c (12 + 27 * m) k (fun _ => v)) = some (nI m, upd (sp_fill c (12 + 27 * m) t (fun _ => v)) 0 (nI (m + 1))) := by
  intro n
  induction n with
  | zero => intro i h1 h2; omega
  | succ n ih =>
    intro k h1 h2
    show b_X3_addRoller_75 N (f_X3_addRoller_75 N n) (nI t) v (nI m) (nI k) (sp_fill c (12 + 27 * m) k (fun _ => v)) = _
    unfold b_X3_addRoller_75
    by_cases hk : k = t
    · rw [if_pos (by rw [nI_leI (by omega) (by omega)]; omega), hk]
      simp only [q_lit]
      rw [s_raise (by omega), k_c1_some, sp_fill_out (by omega), h0, nI_add]
    · rw [if_neg (by rw [nI_leI (by omega) (by omega)]; omega), s_shape hm (by omega), k_c1_some, k_let_eq]
      simp only [q_lit, nI_add]
      rw [sp_fill_step c (12 + 27 * m) k (fun _ => v)]
      exact ih (k + 1) (by omega) (by omega)
def sp_new (c : Nat → Int32) (m t : Nat) : Nat → Int32 := upd (upd (upd c (9 + 27 * m) (nI t)) (10 + 27 * m) (nI 0)) (11 + 27 * m) (nI 0)
theorem s_add {N m t : Nat} {v : Int32} {c : Nat → Int32} (hN : 20000 ≤ N) (hm : m < 8) (ht1 : 2 ≤ t) (ht : t ≤ 24) (hv : q_in v (-9) 9) (h0 : c 0 = nI m) : p_X3_addRoller N (nI t) v c = some (nI m, upd (sp_fill (sp_new c m t) (12 + 27 * m) t (fun _ => v)) 0 (nI (m + 1))) := by
  unfold p_X3_addRoller
  rw [s_outside_t (show q_in (nI t) (2 : Int32).toInt (24 : Int32).toInt from by rw [q_in_nI (by omega)]; exact ⟨by show (2 : Int) ≤ _; omega, by show _ ≤ (24 : Int); omega⟩), s_outside_t (show q_in v (-9 : Int32).toInt (9 : Int32).toInt from hv)]
  have el := s_add_loop (N := N) (v := v) (sp_new c m t) hm ht (by unfold sp_new; simp (disch := omega) only [q_un]; exact h0) N 0 (by omega) (by omega)
  rw [sp_fill_0] at el
  simp (disch := omega) only [q_lit, nI_add, pk_mul, k_let_eq, k_c1_some, k_c2_some, k_c3_some, k_c4_some, k_c5_some, k_c6_some, k_c7_some, k_c8_some, k_c9_some, k_c10_some, k_c11_some, k_c12_some, k_c13_some, k_c14_some, k_c15_some, k_c16_some, k_c17_some, k_ld_nI, k_st_nI, k_nz_nI, k_bit0, k_bit1, pk_rem, pk_sub, q_nn, q_np, q_pn, q_lnp, q_lpn, q_enp, q_epn, nI_leI, nI_ltI, nI_eq, if_pos, if_neg, ↓reduceIte, s_cell, h0, s_placeOf, s_change]
  rw [show 9 + 27 * m + 0 = 9 + 27 * m by omega, show 9 + 27 * m + 1 = 10 + 27 * m by omega, show 9 + 27 * m + 2 = 11 + 27 * m by omega]
  exact el
theorem s_comes_loop {N m : Nat} {x1 : Int32} (us up ue ut um : Int32) (w : Nat → Int32) (hm : m < 8) (h3 : w 3 = nI m) : ∀ n k : Nat, k ≤ 27 → 27 - k < n → f_X7_comes_15 N n x1 (nI (9 + 27 * m)) (nI k) us up ue ut um (sp_fill w (9 + 27 * m) k (fun _ => nI 0)) = some (nI m, upd (upd (sp_fill w (9 + 27 * m) 27 (fun _ => nI 0)) (9 + 27 * m) x1) 3 (nI (m + 1))) := by
  intro n
  induction n with
  | zero => intro i h1 h2; omega
  | succ n ih =>
    intro k h1 h2
    show b_X7_comes_15 N (f_X7_comes_15 N n) x1 (nI (9 + 27 * m)) (nI k) us up ue ut um (sp_fill w (9 + 27 * m) k (fun _ => nI 0)) = _
    unfold b_X7_comes_15
    simp only [q_lit, nI_add]
    by_cases hk : k = 27
    · rw [if_pos (by rw [nI_leI (by omega) (by omega)]; omega), hk, k_st_nI (by omega) (by omega), k_ld_nI (by omega) (by omega), k_st_nI (by omega) (by omega), k_ld_nI (by omega) (by omega), q_us, q_un (by omega), sp_fill_out (by omega), h3, nI_add, pk_sub (by omega), Nat.add_sub_cancel]
      rfl
    · rw [if_neg (by rw [nI_leI (by omega) (by omega)]; omega), k_st_nI (by omega) (by omega), k_let_eq, sp_fill_step w (9 + 27 * m) k (fun _ => nI 0)]
      exact ih (k + 1) (by omega) (by omega)
def sp_rnew (w : Nat → Int32) (m : Nat) (x1 : Int32) : Nat → Int32 := upd (upd (sp_fill w (9 + 27 * m) 27 (fun _ => nI 0)) (9 + 27 * m) x1) 3 (nI (m + 1))
theorem s_comes {N m : Nat} {x1 : Int32} {w : Nat → Int32} (hN : 20000 ≤ N) (us up ue ut um : Int32) (hm : m < 8) (h3 : w 3 = nI m) : p_X7_comes N x1 us up ue ut um w = some (nI m, sp_rnew w m x1) := by
  unfold p_X7_comes
  simp only [q_lit]
  rw [k_ld_nI (by omega) (by omega), h3, pk_mul, nI_add, k_let_eq]
  have el := s_comes_loop (N := N) (x1 := x1) us up ue ut um w hm h3 N 0 (by omega) (by omega)
  rw [sp_fill_0] at el
  exact el
theorem SR_come {c w c1 : Nat → Int32} {m t : Nat} {f g : Nat → Int32} (h : SR c w) (h0 : c 0 = nI m) (hm : m < 8) (ht1 : 2 ≤ t) (ht : t ≤ 24) (hfg : ∀ k, k < t → f k = g k ∧ -9 ≤ (g k).toInt ∧ (g k).toInt ≤ 9)
    (e0 : c1 0 = nI (m + 1)) (e1 : ∀ i, i ≠ 0 → i < 12 + 27 * m → c1 i = sp_new c m t i) (e2 : ∀ k, k < t → c1 (12 + 27 * m + k) = f k) : SR c1 (sp_fill (sp_rnew w m (nI t)) (12 + 27 * m) t g) := by
  refine SR_add h h0 hm e0 (fun i hi hi2 => ?_) ?_ (fun i hi hi2 => ?_) ⟨t, ht1, ht, ?_, ?_, ?_, ?_, fun k hk => ?_⟩
  · rw [e1 i hi (by omega)]; unfold sp_new; simp (disch := omega) only [q_un]
  · rw [sp_fill_out (by omega)]; unfold sp_rnew; rw [q_us]
  · rw [sp_fill_out (by omega)]; unfold sp_rnew; rw [q_un hi, q_un (by omega), sp_fill_out (by omega)]
  · rw [e1 _ (by omega) (by omega)]; unfold sp_new; rw [q_un (by omega), q_un (by omega), q_us]
  · rw [sp_fill_out (by omega)]; unfold sp_rnew; rw [q_un (by omega), q_us]
  · rw [e1 _ (by omega) (by omega), sp_fill_out (by omega)]; unfold sp_new sp_rnew
    rw [q_un (by omega), q_us, q_un (by omega), q_un (by omega), show 10 + 27 * m = 9 + 27 * m + 1 by omega, sp_fill_in (by omega)]
  · rw [e1 _ (by omega) (by omega), sp_fill_out (by omega)]; unfold sp_new sp_rnew
    rw [q_us, q_un (by omega), q_un (by omega), show 11 + 27 * m = 9 + 27 * m + 2 by omega, sp_fill_in (by omega)]
  · rw [e2 k hk, sp_fill_in hk]
    exact hfg k hk
