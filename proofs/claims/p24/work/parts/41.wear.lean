-- steps are counted, teeth are worn
def sp_wear (c : Nat → Int32) (p k : Nat) : Nat → Int32 := fun i => if p ≤ i ∧ i < p + k then (if c i ≤ nI 0 then c i else c i - nI 1) else c i
theorem sp_wear_0 (c : Nat → Int32) (p : Nat) : sp_wear c p 0 = c := by
  funext j
  unfold sp_wear
  rw [if_neg (by omega)]
theorem sp_wear_at (c : Nat → Int32) (p k : Nat) : sp_wear c p k (p + k) = c (p + k) := by
  unfold sp_wear
  rw [if_neg (by omega)]
theorem sp_wear_step (c : Nat → Int32) (p k : Nat) : sp_wear c p (k + 1) = upd (sp_wear c p k) (p + k) (if c (p + k) ≤ nI 0 then c (p + k) else c (p + k) - nI 1) := by
  funext j
  by_cases hj : j = p + k
  · subst hj
    rw [q_us]
    unfold sp_wear
    rw [if_pos (by omega)]
  · rw [q_un hj]
    unfold sp_wear
    by_cases h2 : p ≤ j ∧ j < p + k
    · rw [if_pos h2, if_pos (by omega)]
    · rw [if_neg h2, if_neg (by omega)]
theorem sp_wear_out {c : Nat → Int32} {p k i : Nat} (h : i < p ∨ p + k ≤ i) : sp_wear c p k i = c i := by
  unfold sp_wear
  rw [if_neg (by omega)]
theorem sp_wear_in {c : Nat → Int32} {p t k : Nat} (h : k < t) : sp_wear c p t (p + k) = if c (p + k) ≤ nI 0 then c (p + k) else c (p + k) - nI 1 := by
  unfold sp_wear
  rw [if_pos (by omega)]
theorem q_upd_same (f : Nat → Int32) (k : Nat) : upd f k (f k) = f := by
  funext j
  by_cases hj : j = k
  · subst hj; rw [q_us]
  · rw [q_un hj]
theorem s_wear_loop {N r t : Nat} (c : Nat → Int32) (hr : r < 8) (ht : t ≤ 24) : ∀ n k : Nat, k ≤ t → t - k < n → f_X3_wearDown_8 N n (nI r) (nI t) (nI k) (sp_wear c (12 + 27 * r) k) = some (upd (upd (sp_wear c (12 + 27 * r) t) (10 + 27 * r) (nI 0)) (11 + 27 * r) (c (11 + 27 * r) + nI 1)) := by
  intro n
  induction n with
  | zero => intro i h1 h2; omega
  | succ n ih =>
    intro k h1 h2
    show b_X3_wearDown_8 N (f_X3_wearDown_8 N n) (nI r) (nI t) (nI k) (sp_wear c (12 + 27 * r) k) = _
    unfold b_X3_wearDown_8
    by_cases hk : k = t
    · rw [if_pos (by rw [nI_leI (by omega) (by omega)]; omega), hk, s_placeOf, k_c1_some]
      simp only [q_lit, nI_add]
      rw [s_change (by omega), k_c1_some, k_c1_some, nI_add, s_raise (by omega), k_c1_some, q_un (by omega), show 9 + 27 * r + 2 = 11 + 27 * r by omega, show 9 + 27 * r + 1 = 10 + 27 * r by omega, sp_wear_out (by omega)]
    · rw [if_neg (by rw [nI_leI (by omega) (by omega)]; omega), s_height hr (by omega), k_c1_some, sp_wear_at]
      simp only [q_lit, nI_add, k_let_eq]
      have hs := sp_wear_step c (12 + 27 * r) k
      by_cases hq : c (12 + 27 * r + k) ≤ nI 0
      · rw [if_pos hq] at hs ⊢
        have e : sp_wear c (12 + 27 * r) (k + 1) = sp_wear c (12 + 27 * r) k := by
          rw [hs, ← sp_wear_at c (12 + 27 * r) k, q_upd_same]
        rw [← e]
        exact ih (k + 1) (by omega) (by omega)
      · rw [if_neg hq] at hs ⊢
        rw [s_shape hr (by omega), k_c1_some, ← hs]
        exact ih (k + 1) (by omega) (by omega)
theorem q_sub0 (x : Int32) : x - nI 0 = x := by
  rw [← Int32.toInt_inj, q_sub] <;> rw [nI_toInt (by omega)] <;> have h1 := x.toInt_lt <;> have h2 := x.le_toInt <;> omega
theorem s_count_loop {N r t : Nat} (us up ue ut um : Int32) (w : Nat → Int32) (hr : r < 8) (ht : t ≤ 24) (hw : w (9 + 27 * r) = nI t) : ∀ n k : Nat, k ≤ t → t - k < n → f_X7_counts_71 N n (nI (9 + 27 * r)) (nI k) us up ue ut um (sp_wear w (12 + 27 * r) k) = some (sp_wear w (12 + 27 * r) t) := by
  intro n
  induction n with
  | zero => intro i h1 h2; omega
  | succ n ih =>
    intro k h1 h2
    show b_X7_counts_71 N (f_X7_counts_71 N n) (nI (9 + 27 * r)) (nI k) us up ue ut um (sp_wear w (12 + 27 * r) k) = _
    unfold b_X7_counts_71
    simp only [q_lit, nI_add]
    rw [k_ld_nI (by omega) (by omega), Nat.add_zero, sp_wear_out (by omega), hw]
    by_cases hk : k = t
    · rw [if_pos (by rw [nI_leI (by omega) (by omega)]; omega), hk]
    · rw [if_neg (by rw [nI_leI (by omega) (by omega)]; omega), k_ld_nI (by omega) (by omega), k_ld_nI (by omega) (by omega), show 9 + 27 * r + 3 + k = 12 + 27 * r + k by omega, sp_wear_at]
      have hs := sp_wear_step w (12 + 27 * r) k
      by_cases hq : w (12 + 27 * r + k) ≤ nI 0
      · rw [if_pos hq] at hs ⊢
        rw [k_st_nI (by omega) (by omega), k_let_eq, q_sub0, ← hs]
        exact ih (k + 1) (by omega) (by omega)
      · rw [if_neg hq] at hs ⊢
        rw [k_st_nI (by omega) (by omega), k_let_eq, ← hs]
        exact ih (k + 1) (by omega) (by omega)
theorem o_turn {N m r : Nat} {c w : Nat → Int32} {v : Int32} (hN : 20000 ≤ N) (us up ue ut um : Int32) (hR : SR c w) (h0 : c 0 = nI m) (hm8 : m ≤ 8) (hrm : r < m) :
    ∃ c' w', p_X3_turnRoller N (nI r) v c = some c' ∧ p_X7_counts N (nI r) v us up ue ut um w = some w' ∧ SR c' w' ∧ c' 0 = nI m := by
  obtain ⟨⟨m', hm⟩, th, st, sl, pu, we, s1, s2, s3, s4, s5, s6⟩ := id hR
  obtain ⟨h8, h0', h3, hr⟩ := id hm
  have em : m' = m := (nI_eq (by omega) (by omega)).mp (h0'.symm.trans h0)
  subst em
  obtain ⟨t, t1, t2, t3, t4, t5, t6, t7⟩ := hr r hrm
  obtain ⟨w1, w2, w3, w4⟩ := s6
  unfold p_X3_turnRoller p_X7_counts
  simp only [q_lit, pk_mul, nI_add, k_let_eq, s_placeOf, k_c1_some, Nat.add_zero]
  rw [s_raise (by omega), k_c1_some, s_made (by omega), k_c1_some, s_setting (by omega), k_c1_some, s_teeth (by omega), k_c1_some]
  rw [k_ld_nI (by omega) (by omega), k_st_nI (by omega) (by omega), k_ld_nI (by omega) (by omega), k_ld_nI (by omega) (by omega), k_ld_nI (by omega) (by omega)]
  rw [show 9 + 27 * r + 1 = 10 + 27 * r by omega, q_us, q_us, q_un (by omega), q_un (by omega), q_un (by omega), q_un (by omega), w3, w4, t3, t4, t5, pk_mul]
  have hsr1 : SR (upd c (10 + 27 * r) (w (10 + 27 * r) + v)) (upd w (10 + 27 * r) (w (10 + 27 * r) + v)) := by
    refine SR_at hR h0 h8 hrm (fun i hi => q_un (by omega)) (fun i hi => q_un (by omega)) ⟨t, t1, t2, ?_, ?_, ?_, ?_, fun k hk => ?_⟩
    · rw [q_un (by omega)]; exact t3
    · rw [q_un (by omega)]; exact t4
    · rw [q_us, q_us]
    · rw [q_un (by omega), q_un (by omega)]; exact t6
    · rw [q_un (by omega), q_un (by omega)]; exact t7 k hk
  by_cases hq : w (10 + 27 * r) + v < nI (we * t)
  · rw [if_pos hq, if_neg (by rw [Int32.le_iff_toInt_le]; rw [Int32.lt_iff_toInt_lt] at hq; omega)]
    exact ⟨_, _, rfl, rfl, hsr1, by rw [q_un (by omega)]; exact h0⟩
  · rw [if_neg hq, if_pos (by rw [Int32.le_iff_toInt_le]; rw [Int32.lt_iff_toInt_lt] at hq; omega)]
    unfold p_X3_wearDown
    simp only [q_lit]
    rw [s_teeth (by omega), k_c1_some, q_un (by omega), t3]
    have el := s_wear_loop (N := N) (r := r) (t := t) (upd c (10 + 27 * r) (w (10 + 27 * r) + v)) (by omega) t2 N 0 (by omega) (by omega)
    rw [sp_wear_0] at el
    rw [el, k_c1_some, k_st_nI (by omega) (by omega), k_ld_nI (by omega) (by omega), k_st_nI (by omega) (by omega), show 9 + 27 * r + 2 = 11 + 27 * r by omega]
    have er := s_count_loop (N := N) (r := r) (t := t) us up ue ut um (upd (upd (upd w (10 + 27 * r) (w (10 + 27 * r) + v)) (10 + 27 * r) (nI 0)) (11 + 27 * r) ((upd (upd w (10 + 27 * r) (w (10 + 27 * r) + v)) (10 + 27 * r) (nI 0)) (11 + 27 * r) + nI 1)) (by omega) t2 (by rw [q_un (by omega), q_un (by omega), q_un (by omega)]; exact t4) N 0 (by omega) (by omega)
    rw [sp_wear_0] at er
    rw [er]
    refine ⟨_, _, rfl, rfl, ?_, ?_⟩
    · refine SR_at hR h0 h8 hrm (fun i hi => ?_) (fun i hi => ?_) ⟨t, t1, t2, ?_, ?_, ?_, ?_, fun k hk => ?_⟩
      · rw [q_un (by omega), q_un (by omega), sp_wear_out (by omega), q_un (by omega)]
      · rw [sp_wear_out (by omega), q_un (by omega), q_un (by omega), q_un (by omega)]
      · rw [q_un (by omega), q_un (by omega), sp_wear_out (by omega), q_un (by omega)]; exact t3
      · rw [sp_wear_out (by omega), q_un (by omega), q_un (by omega), q_un (by omega)]; exact t4
      · rw [q_un (by omega), q_us, sp_wear_out (by omega), q_un (by omega), q_us]
      · rw [q_us, q_un (by omega), sp_wear_out (by omega), q_us, q_un (by omega), q_un (by omega), t6]
      · have h7 := t7 k hk
        rw [q_un (by omega), q_un (by omega), sp_wear_in hk, sp_wear_in hk, q_un (by omega), q_un (by omega), q_un (by omega), q_un (by omega), h7.1]
        refine ⟨rfl, ?_⟩
        by_cases hz : w (12 + 27 * r + k) ≤ nI 0
        · rw [if_pos hz]; exact h7.2
        · rw [if_neg hz, q_sub (by rw [nI_toInt (by omega)]; omega) (by rw [nI_toInt (by omega)]; omega), nI_toInt (by omega)]
          rw [Int32.le_iff_toInt_le, nI_toInt (by omega)] at hz
          omega
    · rw [q_un (by omega), q_un (by omega), sp_wear_out (by omega), q_un (by omega)]
      exact h0
theorem counts_Z_loop {N : Nat} (us up ue ut um us' up' ue' ut' um' : Int32) : ∀ (n : Nat) (x3 x4 : Int32) (w : Nat → Int32), f_X7_counts_71 N n x3 x4 us up ue ut um w = f_X7_counts_71 N n x3 x4 us' up' ue' ut' um' w := by
  intro n
  induction n with
  | zero => intro x3 x4 w; rfl
  | succ n ih =>
    intro x3 x4 w
    show b_X7_counts_71 N (f_X7_counts_71 N n) x3 x4 us up ue ut um w = b_X7_counts_71 N (f_X7_counts_71 N n) x3 x4 us' up' ue' ut' um' w
    unfold b_X7_counts_71
    simp only [ih]
theorem counts_Z {N : Nat} (us up ue ut um us' up' ue' ut' um' : Int32) (x1 x2 : Int32) (w : Nat → Int32) : p_X7_counts N x1 x2 us up ue ut um w = p_X7_counts N x1 x2 us' up' ue' ut' um' w := by
  unfold p_X7_counts
  simp only [counts_Z_loop us up ue ut um us' up' ue' ut' um']
theorem o_turnZ {N m r : Nat} {c w : Nat → Int32} {v : Int32} (hN : 20000 ≤ N) (hR : SR c w) (h0 : c 0 = nI m) (hm8 : m ≤ 8) (hrm : r < m) :
    ∃ c' w', p_X3_turnRoller N (nI r) v c = some c' ∧ (∀ us up ue ut um : Int32, p_X7_counts N (nI r) v us up ue ut um w = some w') ∧ SR c' w' ∧ c' 0 = nI m := by
  obtain ⟨c', w', h1, h2, h3, h4⟩ := o_turn (v := v) hN 0 0 0 0 0 hR h0 hm8 hrm
  exact ⟨c', w', h1, fun us up ue ut um => (counts_Z us up ue ut um 0 0 0 0 0 _ _ _).trans h2, h3, h4⟩
