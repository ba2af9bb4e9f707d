-- history: a ring of seven places, and a row that is shifted
theorem k_cpy_nI {β : Type} {n0 n1 a b k : Nat} (h0 : a + k ≤ n0) (h1 : b + k ≤ n1) (b0 : n0 < 65536) (b1 : n1 < 65536) (f g : Nat → Int32) (q : (Nat → Int32) → Option β) : k_cpy n0 n1 f g (nI a) (nI b) (nI k) q = q (va_cpy f g a b k) := by
  unfold k_cpy
  rw [if_neg, nI_clamp (by omega), nI_clamp (by omega), nI_clamp (by omega)]
  rw [nI_clamp (by omega), nI_clamp (by omega), nI_clamp (by omega)]
  rintro (h | h | h | h | h)
  · exact nI_pos (by omega) h
  · exact nI_pos (by omega) h
  · exact nI_pos (by omega) h
  · exact h h0
  · exact h h1
theorem sp_cpy_0 (f g : Nat → Int32) (a b : Nat) : va_cpy f g a b 0 = g := by
  funext j
  unfold va_cpy
  rw [if_neg (by omega)]
theorem sp_cpy_step (f g : Nat → Int32) (a b k : Nat) : upd (va_cpy f g a b k) (b + k) (f (a + k)) = va_cpy f g a b (k + 1) := by
  funext j
  by_cases hj : j = b + k
  · subst hj
    rw [q_us]
    unfold va_cpy
    rw [if_pos (by omega), Nat.add_sub_cancel_left]
  · rw [q_un hj]
    unfold va_cpy
    by_cases h2 : b ≤ j ∧ j < b + k
    · rw [if_pos h2, if_pos (by omega)]
    · rw [if_neg h2, if_neg (by omega)]
theorem cpy_at {f g : Nat → Int32} {a b k i : Nat} (h : i < k) : va_cpy f g a b k (b + i) = f (a + i) := by
  unfold va_cpy
  rw [if_pos (by omega), Nat.add_sub_cancel_left]
theorem cpy_out {f g : Nat → Int32} {a b k j : Nat} (h : j < b ∨ b + k ≤ j) : va_cpy f g a b k j = g j := by
  unfold va_cpy
  rw [if_neg (by omega)]
theorem s_copyToH {N f : Nat} (hf : f < 7) (c hs : Nat → Int32) : p_X3_copyTo_Hs N (nI f) c hs = some (va_cpy c hs 0 (f * 225) 225) := by
  unfold p_X3_copyTo_Hs
  simp only [q_lit, pk_mul]
  rw [if_neg (q_pos (by omega)), k_nz_nI (by omega) (by omega), pk_div (by omega) (by omega) (by omega), if_neg (by rw [nI_leI (by omega) (by omega)]; omega), k_cpy_nI (by omega) (by omega) (by omega) (by omega)]
theorem s_copyFromH {N f : Nat} (hf : f < 7) (c hs : Nat → Int32) : p_X3_copyFrom_Hs N (nI f) c hs = some (va_cpy hs c (f * 225) 0 225) := by
  unfold p_X3_copyFrom_Hs
  simp only [q_lit, pk_mul]
  rw [if_neg (q_pos (by omega)), k_nz_nI (by omega) (by omega), pk_div (by omega) (by omega) (by omega), if_neg (by rw [nI_leI (by omega) (by omega)]; omega), k_cpy_nI (by omega) (by omega) (by omega) (by omega)]
theorem s_copyToL {N f : Nat} (hf : f < 2) (c hs : Nat → Int32) : p_X3_copyTo_Ls N (nI f) c hs = some (va_cpy c hs 0 (f * 225) 225) := by
  unfold p_X3_copyTo_Ls
  simp only [q_lit, pk_mul]
  rw [if_neg (q_pos (by omega)), k_nz_nI (by omega) (by omega), pk_div (by omega) (by omega) (by omega), if_neg (by rw [nI_leI (by omega) (by omega)]; omega), k_cpy_nI (by omega) (by omega) (by omega) (by omega)]
theorem s_copyFromL {N f : Nat} (hf : f < 2) (c hs : Nat → Int32) : p_X3_copyFrom_Ls N (nI f) c hs = some (va_cpy hs c (f * 225) 0 225) := by
  unfold p_X3_copyFrom_Ls
  simp only [q_lit, pk_mul]
  rw [if_neg (q_pos (by omega)), k_nz_nI (by omega) (by omega), pk_div (by omega) (by omega) (by omega), if_neg (by rw [nI_leI (by omega) (by omega)]; omega), k_cpy_nI (by omega) (by omega) (by omega) (by omega)]
-- the reference's lays, four rows
theorem s_layNQ {N a b : Nat} (hN : 20000 ≤ N) (w q : Nat → Int32) (ha : a + 225 ≤ 225) (hb : b + 225 ≤ 1350) : p_X7_lays_zN_zQ N (nI a) (nI b) w q = some (va_cpy w q a b 225) := by
  have el : ∀ n k : Nat, k ≤ 225 → 225 - k < n → f_X7_lays_zN_zQ_3 N n (nI a) (nI b) (nI k) w (va_cpy w q a b k) = some (va_cpy w q a b 225) := by
    intro n
    induction n with
    | zero => intro k h1 h2; omega
    | succ n ih =>
      intro k h1 h2
      show b_X7_lays_zN_zQ_3 N (f_X7_lays_zN_zQ_3 N n) (nI a) (nI b) (nI k) w (va_cpy w q a b k) = _
      unfold b_X7_lays_zN_zQ_3
      simp only [q_lit, nI_add, k_let_eq]
      by_cases hk : k = 225
      · rw [if_pos (by rw [nI_leI (by omega) (by omega)]; omega), hk]
      · rw [if_neg (by rw [nI_leI (by omega) (by omega)]; omega), k_ld_nI (by omega) (by omega), k_st_nI (by omega) (by omega), sp_cpy_step]
        exact ih (k + 1) (by omega) (by omega)
  unfold p_X7_lays_zN_zQ
  have h := el N 0 (by omega) (by omega)
  rw [sp_cpy_0] at h
  exact h
theorem s_layQN {N a b : Nat} (hN : 20000 ≤ N) (w q : Nat → Int32) (ha : a + 225 ≤ 1350) (hb : b + 225 ≤ 225) : p_X7_lays_zQ_zN N (nI a) (nI b) w q = some (va_cpy q w a b 225) := by
  have el : ∀ n k : Nat, k ≤ 225 → 225 - k < n → f_X7_lays_zQ_zN_3 N n (nI a) (nI b) (nI k) (va_cpy q w a b k) q = some (va_cpy q w a b 225) := by
    intro n
    induction n with
    | zero => intro k h1 h2; omega
    | succ n ih =>
      intro k h1 h2
      show b_X7_lays_zQ_zN_3 N (f_X7_lays_zQ_zN_3 N n) (nI a) (nI b) (nI k) (va_cpy q w a b k) q = _
      unfold b_X7_lays_zQ_zN_3
      simp only [q_lit, nI_add, k_let_eq]
      by_cases hk : k = 225
      · rw [if_pos (by rw [nI_leI (by omega) (by omega)]; omega), hk]
      · rw [if_neg (by rw [nI_leI (by omega) (by omega)]; omega), k_ld_nI (by omega) (by omega), k_st_nI (by omega) (by omega), sp_cpy_step]
        exact ih (k + 1) (by omega) (by omega)
  unfold p_X7_lays_zQ_zN
  have h := el N 0 (by omega) (by omega)
  rw [sp_cpy_0] at h
  exact h
theorem s_layNS {N a b : Nat} (hN : 20000 ≤ N) (w q : Nat → Int32) (ha : a + 225 ≤ 225) (hb : b + 225 ≤ 450) : p_X7_lays_zN_zS N (nI a) (nI b) w q = some (va_cpy w q a b 225) := by
  have el : ∀ n k : Nat, k ≤ 225 → 225 - k < n → f_X7_lays_zN_zS_3 N n (nI a) (nI b) (nI k) w (va_cpy w q a b k) = some (va_cpy w q a b 225) := by
    intro n
    induction n with
    | zero => intro k h1 h2; omega
    | succ n ih =>
      intro k h1 h2
      show b_X7_lays_zN_zS_3 N (f_X7_lays_zN_zS_3 N n) (nI a) (nI b) (nI k) w (va_cpy w q a b k) = _
      unfold b_X7_lays_zN_zS_3
      simp only [q_lit, nI_add, k_let_eq]
      by_cases hk : k = 225
      · rw [if_pos (by rw [nI_leI (by omega) (by omega)]; omega), hk]
      · rw [if_neg (by rw [nI_leI (by omega) (by omega)]; omega), k_ld_nI (by omega) (by omega), k_st_nI (by omega) (by omega), sp_cpy_step]
        exact ih (k + 1) (by omega) (by omega)
  unfold p_X7_lays_zN_zS
  have h := el N 0 (by omega) (by omega)
  rw [sp_cpy_0] at h
  exact h
theorem s_laySN {N a b : Nat} (hN : 20000 ≤ N) (w q : Nat → Int32) (ha : a + 225 ≤ 450) (hb : b + 225 ≤ 225) : p_X7_lays_zS_zN N (nI a) (nI b) w q = some (va_cpy q w a b 225) := by
  have el : ∀ n k : Nat, k ≤ 225 → 225 - k < n → f_X7_lays_zS_zN_3 N n (nI a) (nI b) (nI k) (va_cpy q w a b k) q = some (va_cpy q w a b 225) := by
    intro n
    induction n with
    | zero => intro k h1 h2; omega
    | succ n ih =>
      intro k h1 h2
      show b_X7_lays_zS_zN_3 N (f_X7_lays_zS_zN_3 N n) (nI a) (nI b) (nI k) (va_cpy q w a b k) q = _
      unfold b_X7_lays_zS_zN_3
      simp only [q_lit, nI_add, k_let_eq]
      by_cases hk : k = 225
      · rw [if_pos (by rw [nI_leI (by omega) (by omega)]; omega), hk]
      · rw [if_neg (by rw [nI_leI (by omega) (by omega)]; omega), k_ld_nI (by omega) (by omega), k_st_nI (by omega) (by omega), sp_cpy_step]
        exact ih (k + 1) (by omega) (by omega)
  unfold p_X7_lays_zS_zN
  have h := el N 0 (by omega) (by omega)
  rw [sp_cpy_0] at h
  exact h
def sp_sh (q : Nat → Int32) (i : Nat) : Nat → Int32 := fun j => if j < i then q (j + 225) else q j
theorem s_records {N k : Nat} (hN : 20000 ≤ N) (up ue ut um : Int32) (w q : Nat → Int32) (hk : k ≤ 6) : p_X7_records N (nI k) up ue ut um w q = some (nI (if k = 6 then 6 else k + 1), va_cpy w (if k = 6 then sp_sh q 1125 else q) 0 (225 * (if k = 6 then 5 else k)) 225) := by
  have el : ∀ n i : Nat, i ≤ 1125 → 1125 - i < n → f_X7_records_11 N n (nI i) (nI 6) up ue ut um w (sp_sh q i) = some (nI 6, va_cpy w (sp_sh q 1125) 0 1125 225) := by
    intro n
    induction n with
    | zero => intro k h1 h2; omega
    | succ n ih =>
      intro i h1 h2
      show b_X7_records_11 N (f_X7_records_11 N n) (nI i) (nI 6) up ue ut um w (sp_sh q i) = _
      unfold b_X7_records_11
      simp only [q_lit, nI_add, k_let_eq]
      by_cases hi : i = 1125
      · rw [if_pos (by rw [nI_leI (by omega) (by omega)]; omega), hi, pk_sub (by omega), pk_mul, s_layNQ hN _ _ (by omega) (by omega), k_c1_some, nI_add]
      · rw [if_neg (by rw [nI_leI (by omega) (by omega)]; omega), k_ld_nI (by omega) (by omega), k_st_nI (by omega) (by omega)]
        have e : upd (sp_sh q i) i (sp_sh q i (i + 225)) = sp_sh q (i + 1) := by
          funext j
          by_cases hj : j = i
          · subst hj; rw [q_us]; unfold sp_sh; rw [if_neg (by omega), if_pos (by omega)]
          · rw [q_un hj]; unfold sp_sh
            by_cases h2 : j < i
            · rw [if_pos h2, if_pos (by omega)]
            · rw [if_neg h2, if_neg (by omega)]
        rw [e]
        exact ih (i + 1) (by omega) (by omega)
  unfold p_X7_records
  simp only [q_lit, pk_mul, nI_add, k_let_eq]
  by_cases h6 : k = 6
  · subst h6
    rw [if_pos rfl, if_pos rfl, if_pos rfl, if_pos rfl]
    have h := el N 0 (by omega) (by omega)
    have e : sp_sh q 0 = q := by funext j; unfold sp_sh; rw [if_neg (by omega)]
    rw [e] at h
    exact h
  · rw [if_neg (by rw [nI_eq (by omega) (by omega)]; exact h6), if_neg h6, if_neg h6, if_neg h6, s_layNQ hN _ _ (by omega) (by omega), k_c1_some]
-- the relation of the histories
def HR (hs : Nat → Int32) (hf hl : Int32) (uq : Nat → Int32) (us : Int32) : Prop := ∃ f k : Nat, f < 7 ∧ k ≤ 6 ∧ hf = nI f ∧ hl = nI k ∧ us = nI k ∧ ∀ j, j < k → SR (fun i => hs ((f + 6 - j) % 7 * 225 + i)) (fun i => uq (225 * (k - 1 - j) + i))
theorem s_rec_neg {N e : Nat} (he : 1 ≤ e) (he2 : e ≤ 9) (hf hl : Int32) : p_X0_recorded N (-nI e) hf hl = some (-nI e, hf, hl) := by
  unfold p_X0_recorded
  simp only [q_lit]
  rw [if_pos (by rw [q_lnp (by omega) (by omega)]; omega)]
theorem s_rec_pos {N v f k : Nat} (hv : v < 2 ^ 31) (hf : f < 7) (hk : k ≤ 6) : p_X0_recorded N (nI v) (nI f) (nI k) = some (nI v, nI (if f = 6 then 0 else f + 1), nI (if k = 6 then 6 else k + 1)) := by
  unfold p_X0_recorded
  simp only [q_lit, nI_add, k_let_eq]
  have hm : k_min (nI (k + 1)) (nI 6) = nI (if k = 6 then 6 else k + 1) := by
    unfold k_min
    by_cases h : k = 6
    · rw [if_pos (by rw [nI_ltI (by omega) (by omega)]; omega), if_pos h]
    · rw [if_neg (by rw [nI_ltI (by omega) (by omega)]; omega), if_neg h]
  rw [if_neg (q_pos hv), hm]
  by_cases h : f = 6
  · rw [if_pos (by rw [nI_leI (by omega) (by omega)]; omega), if_pos h]
  · rw [if_neg (by rw [nI_leI (by omega) (by omega)]; omega), if_neg h]
theorem h_prep {N : Nat} {c hs uq : Nat → Int32} {hf hl us : Int32} (hN : 20000 ≤ N) (h : HR hs hf hl uq us) :
    ∃ hs', p_X0_prepare N c hf hl hs = some hs' ∧ HR hs' hf hl uq us ∧ ∀ (w : Nat → Int32) (up ue ut um : Int32), SR c w → ∃ hf' hl' us' uq', (∀ v : Nat, v < 2 ^ 31 → p_X0_recorded N (nI v) hf hl = some (nI v, hf', hl')) ∧ p_X7_records N us up ue ut um w uq = some (us', uq') ∧ HR hs' hf' hl' uq' us' := by
  obtain ⟨f, k, hf7, hk6, rfl, rfl, rfl, hj⟩ := h
  refine ⟨va_cpy c hs 0 (f * 225) 225, ?_, ⟨f, k, hf7, hk6, rfl, rfl, rfl, fun j hjk => ?_⟩, fun w up ue ut um hR => ?_⟩
  · unfold p_X0_prepare
    rw [s_copyToH hf7, k_c1_some]
  · refine SR_congr (fun i hi => ?_) (fun i _ => rfl) (hj j hjk)
    exact cpy_out (by omega)
  · refine ⟨nI (if f = 6 then 0 else f + 1), nI (if k = 6 then 6 else k + 1), nI (if k = 6 then 6 else k + 1), _, fun v hv => s_rec_pos hv hf7 hk6, s_records hN up ue ut um w uq hk6, ?_⟩
    refine ⟨if f = 6 then 0 else f + 1, if k = 6 then 6 else k + 1, by split <;> omega, by split <;> omega, rfl, rfl, rfl, fun j hjk => ?_⟩
    by_cases hj0 : j = 0
    · subst hj0
      refine SR_congr (fun i hi => ?_) (fun i hi => ?_) hR
      · rw [show ((if f = 6 then 0 else f + 1) + 6 - 0) % 7 = f by split <;> omega, cpy_at hi, Nat.zero_add]
      · rw [show (if k = 6 then 6 else k + 1) - 1 - 0 = (if k = 6 then 5 else k) by split <;> omega, cpy_at hi, Nat.zero_add]
    · refine SR_congr (fun i hi => ?_) (fun i hi => ?_) (hj (j - 1) (by split at hjk <;> omega))
      · have e : ((if f = 6 then 0 else f + 1) + 6 - j) % 7 = (f + 6 - (j - 1)) % 7 := by split at hjk <;> split <;> omega
        rw [e]
        have e2 : (f + 6 - (j - 1)) % 7 ≠ f := by split at hjk <;> omega
        exact cpy_out (by omega)
      · by_cases h6 : k = 6
        · rw [if_pos h6, if_pos h6, if_pos h6, cpy_out (by split at hjk <;> omega)]
          unfold sp_sh
          rw [if_pos (by split at hjk <;> omega), h6, show 225 * (6 - 1 - j) + i + 225 = 225 * (6 - 1 - (j - 1)) + i by split at hjk <;> omega]
        · rw [if_neg h6, if_neg h6, if_neg h6] at *
          rw [cpy_out (by omega), show k + 1 - 1 - j = k - 1 - (j - 1) by omega]
