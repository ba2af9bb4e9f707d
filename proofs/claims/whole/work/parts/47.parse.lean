-- the pad's text: the parts of an order
theorem s_codeAt_t {N n p : Nat} {pp : Nat → Int32} (hn : n ≤ 80) (hp : p < n) : p_X1_codeAt N (nI p) (nI n) pp = some (pp p) := by
  unfold p_X1_codeAt
  simp only [q_lit]
  rw [if_neg (q_pos (by omega)), if_neg (by rw [nI_leI (by omega) (by omega)]; omega), if_neg (by rw [nI_leI (by omega) (by omega)]; omega), k_ld_nI (by omega) (by omega)]
theorem s_codeAt_f {N n p : Nat} {pp : Nat → Int32} (hn : n ≤ 80) (hp : n ≤ p) (hp2 : p < 20000) : p_X1_codeAt N (nI p) (nI n) pp = some (nI 0) := by
  unfold p_X1_codeAt
  simp only [q_lit]
  rw [if_neg (q_pos (by omega)), if_pos (by rw [nI_leI (by omega) (by omega)]; omega)]
theorem e_skip {N n : Nat} {pp ux : Nat → Int32} (hn : n ≤ 80) (hpp : ∀ i, i < n → pp i = ux i ∧ q_in (ux i) 33 126) {x : Nat} (hx : 0 < x) (hx2 : x < 128) {p : Nat} (hp : p ≤ n) :
    (p < n ∧ pp p = nI x ∧ (∀ a k, p_X2_skip N (nI x) (nI n) pp a k (nI p) = some (nI 1, nI (p + 1))) ∧ (∀ us ue um, p_X7_takes N (nI x) us (nI n) ue (nI p) um ux = some (nI 1, nI (p + 1)))) ∨
    ((p < n → pp p ≠ nI x) ∧ (∀ a k, p_X2_skip N (nI x) (nI n) pp a k (nI p) = some (nI 0, nI p)) ∧ (∀ us ue um, p_X7_takes N (nI x) us (nI n) ue (nI p) um ux = some (nI 0, nI p))) := by
  unfold p_X2_skip p_X7_takes p_X7_sees
  by_cases hpn : p < n
  · have h := hpp p hpn
    by_cases he : pp p = nI x
    · refine Or.inl ⟨hpn, he, fun a k => ?_, fun us ue um => ?_⟩
      · rw [s_codeAt_t hn hpn]; simp (disch := omega) only [q_lit, nI_add, pk_mul, k_let_eq, k_c1_some, k_c2_some, k_c3_some, k_c4_some, k_c5_some, k_c6_some, k_c7_some, k_c8_some, k_c9_some, k_c10_some, k_c11_some, k_c12_some, k_c13_some, k_c14_some, k_ld_nI, k_st_nI, k_nz_nI, k_bit0, k_bit1, pk_rem, pk_sub, q_nn, q_np, q_pn, q_lnp, q_lpn, q_enp, q_epn, nI_leI, nI_ltI, nI_eq, if_pos, if_neg, ↓reduceIte, he]
      · rw [if_neg (by rw [nI_leI (by omega) (by omega)]; omega), k_ld_nI (by omega) (by omega), s_in_t (show q_in (ux p) (nI x).toInt (nI x).toInt from by rw [← h.1, he]; exact ⟨Int.le_refl _, Int.le_refl _⟩)]
        simp (disch := omega) only [q_lit, nI_add, pk_mul, k_let_eq, k_c1_some, k_c2_some, k_c3_some, k_c4_some, k_c5_some, k_c6_some, k_c7_some, k_c8_some, k_c9_some, k_c10_some, k_c11_some, k_c12_some, k_c13_some, k_c14_some, k_ld_nI, k_st_nI, k_nz_nI, k_bit0, k_bit1, pk_rem, pk_sub, q_nn, q_np, q_pn, q_lnp, q_lpn, q_enp, q_epn, nI_leI, nI_ltI, nI_eq, if_pos, if_neg, ↓reduceIte]
    · refine Or.inr ⟨fun _ => he, fun a k => ?_, fun us ue um => ?_⟩
      · rw [s_codeAt_t hn hpn, k_c1_some, if_neg he]; simp only [q_lit]
      · rw [if_neg (by rw [nI_leI (by omega) (by omega)]; omega), k_ld_nI (by omega) (by omega), s_in_f (show ¬ q_in (ux p) (nI x).toInt (nI x).toInt from fun q => he (by rw [h.1, ← Int32.toInt_inj]; have := q.1; have := q.2; omega))]
        simp (disch := omega) only [q_lit, nI_add, pk_mul, k_let_eq, k_c1_some, k_c2_some, k_c3_some, k_c4_some, k_c5_some, k_c6_some, k_c7_some, k_c8_some, k_c9_some, k_c10_some, k_c11_some, k_c12_some, k_c13_some, k_c14_some, k_ld_nI, k_st_nI, k_nz_nI, k_bit0, k_bit1, pk_rem, pk_sub, q_nn, q_np, q_pn, q_lnp, q_lpn, q_enp, q_epn, nI_leI, nI_ltI, nI_eq, if_pos, if_neg, ↓reduceIte, Nat.add_zero]
  · refine Or.inr ⟨fun h => absurd h hpn, fun a k => ?_, fun us ue um => ?_⟩
    · rw [s_codeAt_f hn (by omega) (by omega)]; simp (disch := omega) only [q_lit, nI_add, pk_mul, k_let_eq, k_c1_some, k_c2_some, k_c3_some, k_c4_some, k_c5_some, k_c6_some, k_c7_some, k_c8_some, k_c9_some, k_c10_some, k_c11_some, k_c12_some, k_c13_some, k_c14_some, k_ld_nI, k_st_nI, k_nz_nI, k_bit0, k_bit1, pk_rem, pk_sub, q_nn, q_np, q_pn, q_lnp, q_lpn, q_enp, q_epn, nI_leI, nI_ltI, nI_eq, if_pos, if_neg, ↓reduceIte]
    · rw [if_pos (by rw [nI_leI (by omega) (by omega)]; omega)]; simp (disch := omega) only [q_lit, nI_add, pk_mul, k_let_eq, k_c1_some, k_c2_some, k_c3_some, k_c4_some, k_c5_some, k_c6_some, k_c7_some, k_c8_some, k_c9_some, k_c10_some, k_c11_some, k_c12_some, k_c13_some, k_c14_some, k_ld_nI, k_st_nI, k_nz_nI, k_bit0, k_bit1, pk_rem, pk_sub, q_nn, q_np, q_pn, q_lnp, q_lpn, q_enp, q_epn, nI_leI, nI_ltI, nI_eq, if_pos, if_neg, ↓reduceIte, Nat.add_zero]
theorem e_digit {N n : Nat} {pp ux : Nat → Int32} (hn : n ≤ 80) (hpp : ∀ i, i < n → pp i = ux i ∧ q_in (ux i) 33 126) {p : Nat} (hp : p ≤ n) :
    (∃ d, d ≤ 9 ∧ p < n ∧ ux p = nI (48 + d) ∧ (∀ a k, p_X2_isDigit N (nI n) pp a k (nI p) = some (nI 1)) ∧ (∀ a k, p_X2_readDigit N (nI n) pp a k (nI p) = some (nI d, nI (p + 1))) ∧ (∀ us ue um, p_X7_sees N (nI 48) (nI 57) us (nI n) ue (nI p) um ux = some (nI 1))) ∨
    ((∀ a k, p_X2_isDigit N (nI n) pp a k (nI p) = some (nI 0)) ∧ (∀ us ue um, p_X7_sees N (nI 48) (nI 57) us (nI n) ue (nI p) um ux = some (nI 0))) := by
  unfold p_X2_isDigit p_X2_readDigit p_X7_sees
  by_cases hpn : p < n
  · have h := hpp p hpn
    rcases q_dec (ux p) 48 57 with hd | hd
    · obtain ⟨j, j1, j2, e⟩ := q_in_nat (a := 48) (b := 57) (by omega) hd
      refine Or.inl ⟨j - 48, by omega, hpn, by rw [e]; congr 1; omega, fun a k => ?_, fun a k => ?_, fun us ue um => ?_⟩
      · rw [s_codeAt_t hn hpn, k_c1_some, h.1, s_outside_t (show q_in (ux p) (48 : Int32).toInt (57 : Int32).toInt from hd)]; simp (disch := omega) only [q_lit, nI_add, pk_mul, k_let_eq, k_c1_some, k_c2_some, k_c3_some, k_c4_some, k_c5_some, k_c6_some, k_c7_some, k_c8_some, k_c9_some, k_c10_some, k_c11_some, k_c12_some, k_c13_some, k_c14_some, k_ld_nI, k_st_nI, k_nz_nI, k_bit0, k_bit1, pk_rem, pk_sub, q_nn, q_np, q_pn, q_lnp, q_lpn, q_enp, q_epn, nI_leI, nI_ltI, nI_eq, if_pos, if_neg, ↓reduceIte]
      · rw [s_codeAt_t hn hpn, h.1, e]; simp (disch := omega) only [q_lit, nI_add, pk_mul, k_let_eq, k_c1_some, k_c2_some, k_c3_some, k_c4_some, k_c5_some, k_c6_some, k_c7_some, k_c8_some, k_c9_some, k_c10_some, k_c11_some, k_c12_some, k_c13_some, k_c14_some, k_ld_nI, k_st_nI, k_nz_nI, k_bit0, k_bit1, pk_rem, pk_sub, q_nn, q_np, q_pn, q_lnp, q_lpn, q_enp, q_epn, nI_leI, nI_ltI, nI_eq, if_pos, if_neg, ↓reduceIte]
      · rw [if_neg (by rw [nI_leI (by omega) (by omega)]; omega), k_ld_nI (by omega) (by omega), s_in_t (show q_in (ux p) (nI 48).toInt (nI 57).toInt from hd)]; simp (disch := omega) only [q_lit, nI_add, pk_mul, k_let_eq, k_c1_some, k_c2_some, k_c3_some, k_c4_some, k_c5_some, k_c6_some, k_c7_some, k_c8_some, k_c9_some, k_c10_some, k_c11_some, k_c12_some, k_c13_some, k_c14_some, k_ld_nI, k_st_nI, k_nz_nI, k_bit0, k_bit1, pk_rem, pk_sub, q_nn, q_np, q_pn, q_lnp, q_lpn, q_enp, q_epn, nI_leI, nI_ltI, nI_eq, if_pos, if_neg, ↓reduceIte]
    · refine Or.inr ⟨fun a k => ?_, fun us ue um => ?_⟩
      · rw [s_codeAt_t hn hpn, k_c1_some, h.1, s_outside_f (show ¬ q_in (ux p) (48 : Int32).toInt (57 : Int32).toInt from hd)]; simp (disch := omega) only [q_lit, nI_add, pk_mul, k_let_eq, k_c1_some, k_c2_some, k_c3_some, k_c4_some, k_c5_some, k_c6_some, k_c7_some, k_c8_some, k_c9_some, k_c10_some, k_c11_some, k_c12_some, k_c13_some, k_c14_some, k_ld_nI, k_st_nI, k_nz_nI, k_bit0, k_bit1, pk_rem, pk_sub, q_nn, q_np, q_pn, q_lnp, q_lpn, q_enp, q_epn, nI_leI, nI_ltI, nI_eq, if_pos, if_neg, ↓reduceIte]
      · rw [if_neg (by rw [nI_leI (by omega) (by omega)]; omega), k_ld_nI (by omega) (by omega), s_in_f (show ¬ q_in (ux p) (nI 48).toInt (nI 57).toInt from hd)]; simp (disch := omega) only [q_lit, nI_add, pk_mul, k_let_eq, k_c1_some, k_c2_some, k_c3_some, k_c4_some, k_c5_some, k_c6_some, k_c7_some, k_c8_some, k_c9_some, k_c10_some, k_c11_some, k_c12_some, k_c13_some, k_c14_some, k_ld_nI, k_st_nI, k_nz_nI, k_bit0, k_bit1, pk_rem, pk_sub, q_nn, q_np, q_pn, q_lnp, q_lpn, q_enp, q_epn, nI_leI, nI_ltI, nI_eq, if_pos, if_neg, ↓reduceIte]
  · refine Or.inr ⟨fun a k => ?_, fun us ue um => ?_⟩
    · rw [s_codeAt_f hn (by omega) (by omega), k_c1_some, s_outside_f (show ¬ q_in (nI 0) (48 : Int32).toInt (57 : Int32).toInt from fun q => absurd q.1 (by decide))]; simp (disch := omega) only [q_lit, nI_add, pk_mul, k_let_eq, k_c1_some, k_c2_some, k_c3_some, k_c4_some, k_c5_some, k_c6_some, k_c7_some, k_c8_some, k_c9_some, k_c10_some, k_c11_some, k_c12_some, k_c13_some, k_c14_some, k_ld_nI, k_st_nI, k_nz_nI, k_bit0, k_bit1, pk_rem, pk_sub, q_nn, q_np, q_pn, q_lnp, q_lpn, q_enp, q_epn, nI_leI, nI_ltI, nI_eq, if_pos, if_neg, ↓reduceIte]
    · rw [if_pos (by rw [nI_leI (by omega) (by omega)]; omega)]; rfl
theorem s_note {N a : Nat} (ha : a < 40) (v k t : Int32) (g : Nat → Int32) : p_X2_note N v (nI a) k t g = some (nI (a + 1), upd g a v) := by
  unfold p_X2_note
  simp only [q_lit]
  rw [if_neg (q_pos (by omega)), if_neg (by rw [nI_leI (by omega) (by omega)]; omega), k_st_nI (by omega) (by omega), nI_add, k_let_eq]
theorem e_num {N n : Nat} {pp ux : Nat → Int32} (hn : n ≤ 80) (hpp : ∀ i, i < n → pp i = ux i ∧ q_in (ux i) 33 126) {p : Nat} (hp : p ≤ n) :
    (∃ v q, p < q ∧ q ≤ n ∧ (∀ a, a < 40 → ∀ k g, p_X2_readNumber N (nI n) pp (nI a) k (nI p) g = some (nI 1, nI (a + 1), nI q, upd g a (nI v))) ∧ (∀ a, a < 40 → ∀ us ue g, p_X7_isNumber N us (nI n) ue (nI p) (nI a) ux g = some (nI 1, nI q, nI (a + 1), upd g a (nI v)))) ∨
    ((∀ a k g, p_X2_readNumber N (nI n) pp a k (nI p) g = some (nI 0, a, nI p, g)) ∧ (∀ us ue um g, p_X7_isNumber N us (nI n) ue (nI p) um ux g = some (nI 0, nI p, um, g))) := by
  unfold p_X2_readNumber p_X7_isNumber
  rcases e_digit (N := N) hn hpp hp with ⟨d, d1, d2, d3, d4, d5, d6⟩ | ⟨d4, d6⟩
  rotate_left
  · refine Or.inr ⟨fun a k g => ?_, fun us ue um g => ?_⟩ <;> simp (disch := omega) only [q_lit, nI_add, pk_mul, k_let_eq, k_c1_some, k_c2_some, k_c3_some, k_c4_some, k_c5_some, k_c6_some, k_c7_some, k_c8_some, k_c9_some, k_c10_some, k_c11_some, k_c12_some, k_c13_some, k_c14_some, k_ld_nI, k_st_nI, k_nz_nI, k_bit0, k_bit1, pk_rem, pk_sub, q_nn, q_np, q_pn, q_lnp, q_lpn, q_enp, q_epn, nI_leI, nI_ltI, nI_eq, if_pos, if_neg, ↓reduceIte, d4, d6]
  by_cases h0 : d = 0
  · subst h0
    refine Or.inl ⟨0, p + 1, by omega, by omega, fun a ha k g => ?_, fun a ha us ue g => ?_⟩
    · simp (disch := omega) only [q_lit, nI_add, pk_mul, k_let_eq, k_c1_some, k_c2_some, k_c3_some, k_c4_some, k_c5_some, k_c6_some, k_c7_some, k_c8_some, k_c9_some, k_c10_some, k_c11_some, k_c12_some, k_c13_some, k_c14_some, k_ld_nI, k_st_nI, k_nz_nI, k_bit0, k_bit1, pk_rem, pk_sub, q_nn, q_np, q_pn, q_lnp, q_lpn, q_enp, q_epn, nI_leI, nI_ltI, nI_eq, if_pos, if_neg, ↓reduceIte, d4, d5, s_note]
    · simp (disch := omega) only [q_lit, nI_add, pk_mul, k_let_eq, k_c1_some, k_c2_some, k_c3_some, k_c4_some, k_c5_some, k_c6_some, k_c7_some, k_c8_some, k_c9_some, k_c10_some, k_c11_some, k_c12_some, k_c13_some, k_c14_some, k_ld_nI, k_st_nI, k_nz_nI, k_bit0, k_bit1, pk_rem, pk_sub, q_nn, q_np, q_pn, q_lnp, q_lpn, q_enp, q_epn, nI_leI, nI_ltI, nI_eq, if_pos, if_neg, ↓reduceIte, d6, d3]
  rcases e_digit (N := N) hn hpp (show p + 1 ≤ n by omega) with ⟨f, f1, f2, f3, f4, f5, f6⟩ | ⟨f4, f6⟩
  · refine Or.inl ⟨10 * d + f, p + 1 + 1, by omega, by omega, fun a ha k g => ?_, fun a ha us ue g => ?_⟩
    · simp (disch := omega) only [q_lit, nI_add, pk_mul, k_let_eq, k_c1_some, k_c2_some, k_c3_some, k_c4_some, k_c5_some, k_c6_some, k_c7_some, k_c8_some, k_c9_some, k_c10_some, k_c11_some, k_c12_some, k_c13_some, k_c14_some, k_ld_nI, k_st_nI, k_nz_nI, k_bit0, k_bit1, pk_rem, pk_sub, q_nn, q_np, q_pn, q_lnp, q_lpn, q_enp, q_epn, nI_leI, nI_ltI, nI_eq, if_pos, if_neg, ↓reduceIte, d4, d5, f4, f5, s_note]
    · simp (disch := omega) only [q_lit, nI_add, pk_mul, k_let_eq, k_c1_some, k_c2_some, k_c3_some, k_c4_some, k_c5_some, k_c6_some, k_c7_some, k_c8_some, k_c9_some, k_c10_some, k_c11_some, k_c12_some, k_c13_some, k_c14_some, k_ld_nI, k_st_nI, k_nz_nI, k_bit0, k_bit1, pk_rem, pk_sub, q_nn, q_np, q_pn, q_lnp, q_lpn, q_enp, q_epn, nI_leI, nI_ltI, nI_eq, if_pos, if_neg, ↓reduceIte, d6, d3, f6, f3, show 48 + d - 48 = d by omega, show 10 * d + (48 + f) - 48 = 10 * d + f by omega]
  · refine Or.inl ⟨d, p + 1, by omega, by omega, fun a ha k g => ?_, fun a ha us ue g => ?_⟩
    · simp (disch := omega) only [q_lit, nI_add, pk_mul, k_let_eq, k_c1_some, k_c2_some, k_c3_some, k_c4_some, k_c5_some, k_c6_some, k_c7_some, k_c8_some, k_c9_some, k_c10_some, k_c11_some, k_c12_some, k_c13_some, k_c14_some, k_ld_nI, k_st_nI, k_nz_nI, k_bit0, k_bit1, pk_rem, pk_sub, q_nn, q_np, q_pn, q_lnp, q_lpn, q_enp, q_epn, nI_leI, nI_ltI, nI_eq, if_pos, if_neg, ↓reduceIte, d4, d5, f4, s_note]
    · simp (disch := omega) only [q_lit, nI_add, pk_mul, k_let_eq, k_c1_some, k_c2_some, k_c3_some, k_c4_some, k_c5_some, k_c6_some, k_c7_some, k_c8_some, k_c9_some, k_c10_some, k_c11_some, k_c12_some, k_c13_some, k_c14_some, k_ld_nI, k_st_nI, k_nz_nI, k_bit0, k_bit1, pk_rem, pk_sub, q_nn, q_np, q_pn, q_lnp, q_lpn, q_enp, q_epn, nI_leI, nI_ltI, nI_eq, if_pos, if_neg, ↓reduceIte, d6, d3, f6, show 48 + d - 48 = d by omega]
theorem e_value {N n : Nat} {pp ux : Nat → Int32} (hn : n ≤ 80) (hpp : ∀ i, i < n → pp i = ux i ∧ q_in (ux i) 33 126) {p : Nat} (hp : p ≤ n) :
    (∃ v q, p < q ∧ q ≤ n ∧ q_in v (-9) 9 ∧ (∀ a, a < 40 → ∀ k g, p_X2_readValue N (nI n) pp (nI a) k (nI p) g = some (nI 1, nI (a + 1), nI q, upd g a v)) ∧ (∀ a, a < 40 → ∀ us ue g, p_X7_isValue N us (nI n) ue (nI p) (nI a) ux g = some (nI 1, nI q, nI (a + 1), upd g a v))) ∨
    (∃ q, p ≤ q ∧ q ≤ n ∧ (∀ a k g, p_X2_readValue N (nI n) pp a k (nI p) g = some (nI 0, a, nI q, g)) ∧ (∀ us ue um g, p_X7_isValue N us (nI n) ue (nI p) um ux g = some (nI 0, nI q, um, g))) := by
  unfold p_X2_readValue p_X7_isValue
  rcases e_skip (N := N) hn hpp (x := 45) (by omega) (by omega) hp with ⟨s1, -, s2, s3⟩ | ⟨-, s2, s3⟩
  · rcases e_digit (N := N) hn hpp (show p + 1 ≤ n by omega) with ⟨d, d1, d2, d3, d4, d5, d6⟩ | ⟨d4, d6⟩
    · refine Or.inl ⟨-nI 1 * nI d, p + 1 + 1, by omega, by omega, ?_, fun a ha k g => ?_, fun a ha us ue g => ?_⟩
      · exact (by decide +kernel : ∀ d, d < 10 → (-9 ≤ (-nI 1 * nI d).toInt ∧ (-nI 1 * nI d).toInt ≤ 9)) d (by omega)
      · simp (disch := omega) only [q_lit, nI_add, pk_mul, k_let_eq, k_c1_some, k_c2_some, k_c3_some, k_c4_some, k_c5_some, k_c6_some, k_c7_some, k_c8_some, k_c9_some, k_c10_some, k_c11_some, k_c12_some, k_c13_some, k_c14_some, k_ld_nI, k_st_nI, k_nz_nI, k_bit0, k_bit1, pk_rem, pk_sub, q_nn, q_np, q_pn, q_lnp, q_lpn, q_enp, q_epn, nI_leI, nI_ltI, nI_eq, if_pos, if_neg, ↓reduceIte, s2, d4, d5, s_note]
      · simp (disch := omega) only [q_lit, nI_add, pk_mul, k_let_eq, k_c1_some, k_c2_some, k_c3_some, k_c4_some, k_c5_some, k_c6_some, k_c7_some, k_c8_some, k_c9_some, k_c10_some, k_c11_some, k_c12_some, k_c13_some, k_c14_some, k_ld_nI, k_st_nI, k_nz_nI, k_bit0, k_bit1, pk_rem, pk_sub, q_nn, q_np, q_pn, q_lnp, q_lpn, q_enp, q_epn, nI_leI, nI_ltI, nI_eq, if_pos, if_neg, ↓reduceIte, s3, d6, d3, b_X7_isValue_14, show 48 + d - 48 = d by omega]
    · refine Or.inr ⟨p + 1, by omega, by omega, fun a k g => ?_, fun us ue um g => ?_⟩
      · simp (disch := omega) only [q_lit, nI_add, pk_mul, k_let_eq, k_c1_some, k_c2_some, k_c3_some, k_c4_some, k_c5_some, k_c6_some, k_c7_some, k_c8_some, k_c9_some, k_c10_some, k_c11_some, k_c12_some, k_c13_some, k_c14_some, k_ld_nI, k_st_nI, k_nz_nI, k_bit0, k_bit1, pk_rem, pk_sub, q_nn, q_np, q_pn, q_lnp, q_lpn, q_enp, q_epn, nI_leI, nI_ltI, nI_eq, if_pos, if_neg, ↓reduceIte, s2, d4]
      · simp (disch := omega) only [q_lit, nI_add, pk_mul, k_let_eq, k_c1_some, k_c2_some, k_c3_some, k_c4_some, k_c5_some, k_c6_some, k_c7_some, k_c8_some, k_c9_some, k_c10_some, k_c11_some, k_c12_some, k_c13_some, k_c14_some, k_ld_nI, k_st_nI, k_nz_nI, k_bit0, k_bit1, pk_rem, pk_sub, q_nn, q_np, q_pn, q_lnp, q_lpn, q_enp, q_epn, nI_leI, nI_ltI, nI_eq, if_pos, if_neg, ↓reduceIte, s3, d6, b_X7_isValue_14]
  · rcases e_digit (N := N) hn hpp hp with ⟨d, d1, d2, d3, d4, d5, d6⟩ | ⟨d4, d6⟩
    · refine Or.inl ⟨nI d, p + 1, by omega, by omega, ?_, fun a ha k g => ?_, fun a ha us ue g => ?_⟩
      · rw [q_in_nI (by omega)]; omega
      · simp (disch := omega) only [q_lit, nI_add, pk_mul, k_let_eq, k_c1_some, k_c2_some, k_c3_some, k_c4_some, k_c5_some, k_c6_some, k_c7_some, k_c8_some, k_c9_some, k_c10_some, k_c11_some, k_c12_some, k_c13_some, k_c14_some, k_ld_nI, k_st_nI, k_nz_nI, k_bit0, k_bit1, pk_rem, pk_sub, q_nn, q_np, q_pn, q_lnp, q_lpn, q_enp, q_epn, nI_leI, nI_ltI, nI_eq, if_pos, if_neg, ↓reduceIte, s2, d4, d5, s_note, Nat.one_mul]
      · simp (disch := omega) only [q_lit, nI_add, pk_mul, k_let_eq, k_c1_some, k_c2_some, k_c3_some, k_c4_some, k_c5_some, k_c6_some, k_c7_some, k_c8_some, k_c9_some, k_c10_some, k_c11_some, k_c12_some, k_c13_some, k_c14_some, k_ld_nI, k_st_nI, k_nz_nI, k_bit0, k_bit1, pk_rem, pk_sub, q_nn, q_np, q_pn, q_lnp, q_lpn, q_enp, q_epn, nI_leI, nI_ltI, nI_eq, if_pos, if_neg, ↓reduceIte, s3, d6, d3, b_X7_isValue_14, show 48 + d - 48 = d by omega, Nat.one_mul]
    · refine Or.inr ⟨p, by omega, by omega, fun a k g => ?_, fun us ue um g => ?_⟩
      · simp (disch := omega) only [q_lit, nI_add, pk_mul, k_let_eq, k_c1_some, k_c2_some, k_c3_some, k_c4_some, k_c5_some, k_c6_some, k_c7_some, k_c8_some, k_c9_some, k_c10_some, k_c11_some, k_c12_some, k_c13_some, k_c14_some, k_ld_nI, k_st_nI, k_nz_nI, k_bit0, k_bit1, pk_rem, pk_sub, q_nn, q_np, q_pn, q_lnp, q_lpn, q_enp, q_epn, nI_leI, nI_ltI, nI_eq, if_pos, if_neg, ↓reduceIte, s2, d4]
      · simp (disch := omega) only [q_lit, nI_add, pk_mul, k_let_eq, k_c1_some, k_c2_some, k_c3_some, k_c4_some, k_c5_some, k_c6_some, k_c7_some, k_c8_some, k_c9_some, k_c10_some, k_c11_some, k_c12_some, k_c13_some, k_c14_some, k_ld_nI, k_st_nI, k_nz_nI, k_bit0, k_bit1, pk_rem, pk_sub, q_nn, q_np, q_pn, q_lnp, q_lpn, q_enp, q_epn, nI_leI, nI_ltI, nI_eq, if_pos, if_neg, ↓reduceIte, s3, d6, b_X7_isValue_14]
def q_wv (g f : Nat → Int32) (a b : Nat) : Nat → Int32 := fun k => if a ≤ k ∧ k < b then f k else g k
theorem q_wv_0 (g f : Nat → Int32) (a : Nat) : q_wv g f a a = g := by
  funext k
  unfold q_wv
  rw [if_neg (by omega)]
theorem q_wv_step {a b : Nat} (h : a + 1 ≤ b) (g f : Nat → Int32) (v : Int32) : q_wv (upd g a v) f (a + 1) b = q_wv g (upd f a v) a b := by
  funext k
  unfold q_wv
  by_cases hk : k = a
  · subst hk
    rw [if_neg (by omega), if_pos (by omega), q_us, q_us]
  · rw [q_un hk, q_un hk]
    by_cases h1 : a + 1 ≤ k ∧ k < b
    · rw [if_pos h1, if_pos (by omega)]
    · rw [if_neg h1, if_neg (by omega)]
theorem q_wv_in {g f : Nat → Int32} {a b k : Nat} (h1 : a ≤ k) (h2 : k < b) : q_wv g f a b k = f k := by
  unfold q_wv
  rw [if_pos ⟨h1, h2⟩]
def q_p1 (z : Int32 × Int32 × Int32 × (Nat → Int32)) : Int32 × Int32 := (z.1, z.2.2.1)
def q_p2 (z : Int32 × Int32 × Int32 × (Nat → Int32)) : Int32 × Int32 := (z.1, z.2.1)
theorem s_vz1 (N n : Nat) (x2 a : Int32) (pl k t : Int32) (pp g : Nat → Int32) : f_X2_readValues_7 N (n + 1) (nI 0) x2 pl pp a k t g = some (nI 0, a, t, g) := by
  show b_X2_readValues_7 N (f_X2_readValues_7 N n) (nI 0) x2 pl pp a k t g = _
  unfold b_X2_readValues_7
  by_cases h : (40 : Int32) ≤ x2
  · rw [if_pos h, k_bit0]
  · rw [if_neg h, if_pos (show nI 0 = (0 : Int32) from rfl), k_bit0]
theorem s_vz2 (N n : Nat) (us up ue ut um : Int32) (ux uo : Nat → Int32) : f_X7_areValues_5 N (n + 1) (nI 0) us up ue ut um ux uo = some (nI 0, ut, um, uo) := by
  show b_X7_areValues_5 N (f_X7_areValues_5 N n) (nI 0) us up ue ut um ux uo = _
  unfold b_X7_areValues_5
  rw [if_pos (show nI 0 = (0 : Int32) from rfl), k_bit0]
theorem e_vlp {N n : Nat} {pp ux : Nat → Int32} (hn : n ≤ 80) (hpp : ∀ i, i < n → pp i = ux i ∧ q_in (ux i) 33 126) : ∀ m a p : Nat, 1 ≤ a → a ≤ 40 → 2 * a ≤ p → p ≤ n → n + 1 - p < m →
    (∃ b q f, a ≤ b ∧ b ≤ 40 ∧ p ≤ q ∧ q ≤ n ∧ (∀ k, a ≤ k → k < b → q_in (f k) (-9) 9) ∧ (∀ k g, f_X2_readValues_7 N m (nI 1) (nI a) (nI n) pp (nI a) k (nI p) g = some (nI 1, nI b, nI q, q_wv g f a b)) ∧ (∀ us ue g, f_X7_areValues_5 N m (nI 1) us (nI n) ue (nI p) (nI a) ux g = some (nI 1, nI q, nI b, q_wv g f a b))) ∨
    (∃ q, p ≤ q ∧ q ≤ n ∧ (∀ k g, (f_X2_readValues_7 N m (nI 1) (nI a) (nI n) pp (nI a) k (nI p) g).map q_p1 = some (nI 0, nI q)) ∧ (∀ us ue g, (f_X7_areValues_5 N m (nI 1) us (nI n) ue (nI p) (nI a) ux g).map q_p2 = some (nI 0, nI q))) := by
  intro m
  induction m with
  | zero => intro a p h1 h2 h3 h4 h5; omega
  | succ m ih =>
    intro a p h1 h2 h3 h4 h5
    show (∃ b q f, a ≤ b ∧ b ≤ 40 ∧ p ≤ q ∧ q ≤ n ∧ (∀ k, a ≤ k → k < b → q_in (f k) (-9) 9) ∧ (∀ k g, b_X2_readValues_7 N (f_X2_readValues_7 N m) (nI 1) (nI a) (nI n) pp (nI a) k (nI p) g = some (nI 1, nI b, nI q, q_wv g f a b)) ∧ (∀ us ue g, b_X7_areValues_5 N (f_X7_areValues_5 N m) (nI 1) us (nI n) ue (nI p) (nI a) ux g = some (nI 1, nI q, nI b, q_wv g f a b))) ∨
    (∃ q, p ≤ q ∧ q ≤ n ∧ (∀ k g, (b_X2_readValues_7 N (f_X2_readValues_7 N m) (nI 1) (nI a) (nI n) pp (nI a) k (nI p) g).map q_p1 = some (nI 0, nI q)) ∧ (∀ us ue g, (b_X7_areValues_5 N (f_X7_areValues_5 N m) (nI 1) us (nI n) ue (nI p) (nI a) ux g).map q_p2 = some (nI 0, nI q)))
    unfold b_X2_readValues_7 b_X7_areValues_5
    rcases e_skip (N := N) hn hpp (x := 44) (by omega) (by omega) h4 with ⟨s1, -, s2, s3⟩ | ⟨-, s2, s3⟩
    rotate_left
    · refine Or.inl ⟨a, p, fun _ => nI 0, by omega, by omega, by omega, by omega, fun k k1 k2 => by omega, fun k g => ?_, fun us ue g => ?_⟩
      · rw [q_wv_0]
        by_cases h40 : a = 40
        · subst h40; simp (disch := omega) only [q_lit, nI_add, pk_mul, k_let_eq, k_c1_some, k_c2_some, k_c3_some, k_c4_some, k_c5_some, k_c6_some, k_c7_some, k_c8_some, k_c9_some, k_c10_some, k_c11_some, k_c12_some, k_c13_some, k_c14_some, k_ld_nI, k_st_nI, k_nz_nI, k_bit0, k_bit1, pk_rem, pk_sub, q_nn, q_np, q_pn, q_lnp, q_lpn, q_enp, q_epn, nI_leI, nI_ltI, nI_eq, if_pos, if_neg, ↓reduceIte]
        · simp (disch := omega) only [q_lit, nI_add, pk_mul, k_let_eq, k_c1_some, k_c2_some, k_c3_some, k_c4_some, k_c5_some, k_c6_some, k_c7_some, k_c8_some, k_c9_some, k_c10_some, k_c11_some, k_c12_some, k_c13_some, k_c14_some, k_ld_nI, k_st_nI, k_nz_nI, k_bit0, k_bit1, pk_rem, pk_sub, q_nn, q_np, q_pn, q_lnp, q_lpn, q_enp, q_epn, nI_leI, nI_ltI, nI_eq, if_pos, if_neg, ↓reduceIte, s2]
      · rw [q_wv_0]; simp (disch := omega) only [q_lit, nI_add, pk_mul, k_let_eq, k_c1_some, k_c2_some, k_c3_some, k_c4_some, k_c5_some, k_c6_some, k_c7_some, k_c8_some, k_c9_some, k_c10_some, k_c11_some, k_c12_some, k_c13_some, k_c14_some, k_ld_nI, k_st_nI, k_nz_nI, k_bit0, k_bit1, pk_rem, pk_sub, q_nn, q_np, q_pn, q_lnp, q_lpn, q_enp, q_epn, nI_leI, nI_ltI, nI_eq, if_pos, if_neg, ↓reduceIte, s3]
    have h40 : a < 40 := by omega
    rcases e_value (N := N) hn hpp (show p + 1 ≤ n by omega) with ⟨v, q, v1, v2, v3, v4, v5⟩ | ⟨q, v1, v2, v4, v5⟩
    · rcases ih (a + 1) q (by omega) (by omega) (by omega) v2 (by omega) with ⟨b, q', f, b1, b2, b3, b4, b5, b6, b7⟩ | ⟨q', b3, b4, b6, b7⟩
      · refine Or.inl ⟨b, q', upd f a v, by omega, b2, by omega, b4, fun k k1 k2 => ?_, fun k g => ?_, fun us ue g => ?_⟩
        · by_cases hk : k = a
          · subst hk; rw [q_us]; exact v3
          · rw [q_un hk]; exact b5 k (by omega) k2
        · simp (disch := omega) only [q_lit, nI_add, pk_mul, k_let_eq, k_c1_some, k_c2_some, k_c3_some, k_c4_some, k_c5_some, k_c6_some, k_c7_some, k_c8_some, k_c9_some, k_c10_some, k_c11_some, k_c12_some, k_c13_some, k_c14_some, k_ld_nI, k_st_nI, k_nz_nI, k_bit0, k_bit1, pk_rem, pk_sub, q_nn, q_np, q_pn, q_lnp, q_lpn, q_enp, q_epn, nI_leI, nI_ltI, nI_eq, if_pos, if_neg, ↓reduceIte, s2, v4, b6]
          rw [q_wv_step b1]
        · simp (disch := omega) only [q_lit, nI_add, pk_mul, k_let_eq, k_c1_some, k_c2_some, k_c3_some, k_c4_some, k_c5_some, k_c6_some, k_c7_some, k_c8_some, k_c9_some, k_c10_some, k_c11_some, k_c12_some, k_c13_some, k_c14_some, k_ld_nI, k_st_nI, k_nz_nI, k_bit0, k_bit1, pk_rem, pk_sub, q_nn, q_np, q_pn, q_lnp, q_lpn, q_enp, q_epn, nI_leI, nI_ltI, nI_eq, if_pos, if_neg, ↓reduceIte, s3, v5, b7]
          rw [q_wv_step b1]
      · refine Or.inr ⟨q', by omega, b4, fun k g => ?_, fun us ue g => ?_⟩
        · simp (disch := omega) only [q_lit, nI_add, pk_mul, k_let_eq, k_c1_some, k_c2_some, k_c3_some, k_c4_some, k_c5_some, k_c6_some, k_c7_some, k_c8_some, k_c9_some, k_c10_some, k_c11_some, k_c12_some, k_c13_some, k_c14_some, k_ld_nI, k_st_nI, k_nz_nI, k_bit0, k_bit1, pk_rem, pk_sub, q_nn, q_np, q_pn, q_lnp, q_lpn, q_enp, q_epn, nI_leI, nI_ltI, nI_eq, if_pos, if_neg, ↓reduceIte, s2, v4, b6]
        · simp (disch := omega) only [q_lit, nI_add, pk_mul, k_let_eq, k_c1_some, k_c2_some, k_c3_some, k_c4_some, k_c5_some, k_c6_some, k_c7_some, k_c8_some, k_c9_some, k_c10_some, k_c11_some, k_c12_some, k_c13_some, k_c14_some, k_ld_nI, k_st_nI, k_nz_nI, k_bit0, k_bit1, pk_rem, pk_sub, q_nn, q_np, q_pn, q_lnp, q_lpn, q_enp, q_epn, nI_leI, nI_ltI, nI_eq, if_pos, if_neg, ↓reduceIte, s3, v5, b7]
    · obtain ⟨m, rfl⟩ : ∃ m', m = m' + 1 := ⟨m - 1, by omega⟩
      refine Or.inr ⟨q, by omega, v2, fun k g => ?_, fun us ue g => ?_⟩
      · simp (disch := omega) only [q_lit, nI_add, pk_mul, k_let_eq, k_c1_some, k_c2_some, k_c3_some, k_c4_some, k_c5_some, k_c6_some, k_c7_some, k_c8_some, k_c9_some, k_c10_some, k_c11_some, k_c12_some, k_c13_some, k_c14_some, k_ld_nI, k_st_nI, k_nz_nI, k_bit0, k_bit1, pk_rem, pk_sub, q_nn, q_np, q_pn, q_lnp, q_lpn, q_enp, q_epn, nI_leI, nI_ltI, nI_eq, if_pos, if_neg, ↓reduceIte, s2, v4, s_vz1]; rfl
      · simp (disch := omega) only [q_lit, nI_add, pk_mul, k_let_eq, k_c1_some, k_c2_some, k_c3_some, k_c4_some, k_c5_some, k_c6_some, k_c7_some, k_c8_some, k_c9_some, k_c10_some, k_c11_some, k_c12_some, k_c13_some, k_c14_some, k_ld_nI, k_st_nI, k_nz_nI, k_bit0, k_bit1, pk_rem, pk_sub, q_nn, q_np, q_pn, q_lnp, q_lpn, q_enp, q_epn, nI_leI, nI_ltI, nI_eq, if_pos, if_neg, ↓reduceIte, s3, v5, s_vz2]; rfl
theorem e_vals {N n : Nat} {pp ux : Nat → Int32} (hN : 20000 ≤ N) (hn : n ≤ 80) (hpp : ∀ i, i < n → pp i = ux i ∧ q_in (ux i) 33 126) {p : Nat} (hp1 : 1 ≤ p) (hp : p ≤ n) :
    (∃ b q f, 1 ≤ b ∧ b ≤ 40 ∧ p < q ∧ q ≤ n ∧ (∀ k, k < b → q_in (f k) (-9) 9) ∧ (∀ k g, p_X2_readValues N (nI n) pp (nI 0) k (nI p) g = some (nI 1, nI b, nI q, q_wv g f 0 b)) ∧ (∀ us ue g, p_X7_areValues N us (nI n) ue (nI p) (nI 0) ux g = some (nI 1, nI q, nI b, q_wv g f 0 b))) ∨
    (∃ q, p ≤ q ∧ q ≤ n ∧ (∀ k g, (p_X2_readValues N (nI n) pp (nI 0) k (nI p) g).map q_p1 = some (nI 0, nI q)) ∧ (∀ us ue g, (p_X7_areValues N us (nI n) ue (nI p) (nI 0) ux g).map q_p2 = some (nI 0, nI q))) := by
  unfold p_X2_readValues p_X7_areValues
  rcases e_value (N := N) hn hpp hp with ⟨v, q, v1, v2, v3, v4, v5⟩ | ⟨q, v1, v2, v4, v5⟩
  · rcases e_vlp (N := N) hn hpp N 1 q (by omega) (by omega) (by omega) v2 (by omega) with ⟨b, q', f, b1, b2, b3, b4, b5, b6, b7⟩ | ⟨q', b3, b4, b6, b7⟩
    · refine Or.inl ⟨b, q', upd f 0 v, b1, b2, by omega, b4, fun k k2 => ?_, fun k g => ?_, fun us ue g => ?_⟩
      · by_cases hk : k = 0
        · subst hk; rw [q_us]; exact v3
        · rw [q_un hk]; exact b5 k (by omega) k2
      · simp (disch := omega) only [q_lit, nI_add, pk_mul, k_let_eq, k_c1_some, k_c2_some, k_c3_some, k_c4_some, k_c5_some, k_c6_some, k_c7_some, k_c8_some, k_c9_some, k_c10_some, k_c11_some, k_c12_some, k_c13_some, k_c14_some, k_ld_nI, k_st_nI, k_nz_nI, k_bit0, k_bit1, pk_rem, pk_sub, q_nn, q_np, q_pn, q_lnp, q_lpn, q_enp, q_epn, nI_leI, nI_ltI, nI_eq, if_pos, if_neg, ↓reduceIte, v4]
        rw [show nI (0 + 1) = nI 1 from rfl, b6, ← q_wv_step b1]
      · simp (disch := omega) only [q_lit, nI_add, pk_mul, k_let_eq, k_c1_some, k_c2_some, k_c3_some, k_c4_some, k_c5_some, k_c6_some, k_c7_some, k_c8_some, k_c9_some, k_c10_some, k_c11_some, k_c12_some, k_c13_some, k_c14_some, k_ld_nI, k_st_nI, k_nz_nI, k_bit0, k_bit1, pk_rem, pk_sub, q_nn, q_np, q_pn, q_lnp, q_lpn, q_enp, q_epn, nI_leI, nI_ltI, nI_eq, if_pos, if_neg, ↓reduceIte, v5]
        rw [show nI (0 + 1) = nI 1 from rfl, b7, ← q_wv_step b1]
    · refine Or.inr ⟨q', by omega, b4, fun k g => ?_, fun us ue g => ?_⟩
      · simp (disch := omega) only [q_lit, nI_add, pk_mul, k_let_eq, k_c1_some, k_c2_some, k_c3_some, k_c4_some, k_c5_some, k_c6_some, k_c7_some, k_c8_some, k_c9_some, k_c10_some, k_c11_some, k_c12_some, k_c13_some, k_c14_some, k_ld_nI, k_st_nI, k_nz_nI, k_bit0, k_bit1, pk_rem, pk_sub, q_nn, q_np, q_pn, q_lnp, q_lpn, q_enp, q_epn, nI_leI, nI_ltI, nI_eq, if_pos, if_neg, ↓reduceIte, v4]
        rw [show nI (0 + 1) = nI 1 from rfl, b6]
      · simp (disch := omega) only [q_lit, nI_add, pk_mul, k_let_eq, k_c1_some, k_c2_some, k_c3_some, k_c4_some, k_c5_some, k_c6_some, k_c7_some, k_c8_some, k_c9_some, k_c10_some, k_c11_some, k_c12_some, k_c13_some, k_c14_some, k_ld_nI, k_st_nI, k_nz_nI, k_bit0, k_bit1, pk_rem, pk_sub, q_nn, q_np, q_pn, q_lnp, q_lpn, q_enp, q_epn, nI_leI, nI_ltI, nI_eq, if_pos, if_neg, ↓reduceIte, v5]
        rw [show nI (0 + 1) = nI 1 from rfl, b7]
  · obtain ⟨M, rfl⟩ : ∃ m', N = m' + 1 := ⟨N - 1, by omega⟩
    refine Or.inr ⟨q, by omega, v2, fun k g => ?_, fun us ue g => ?_⟩
    · simp (disch := omega) only [q_lit, nI_add, pk_mul, k_let_eq, k_c1_some, k_c2_some, k_c3_some, k_c4_some, k_c5_some, k_c6_some, k_c7_some, k_c8_some, k_c9_some, k_c10_some, k_c11_some, k_c12_some, k_c13_some, k_c14_some, k_ld_nI, k_st_nI, k_nz_nI, k_bit0, k_bit1, pk_rem, pk_sub, q_nn, q_np, q_pn, q_lnp, q_lpn, q_enp, q_epn, nI_leI, nI_ltI, nI_eq, if_pos, if_neg, ↓reduceIte, v4, s_vz1]; rfl
    · simp (disch := omega) only [q_lit, nI_add, pk_mul, k_let_eq, k_c1_some, k_c2_some, k_c3_some, k_c4_some, k_c5_some, k_c6_some, k_c7_some, k_c8_some, k_c9_some, k_c10_some, k_c11_some, k_c12_some, k_c13_some, k_c14_some, k_ld_nI, k_st_nI, k_nz_nI, k_bit0, k_bit1, pk_rem, pk_sub, q_nn, q_np, q_pn, q_lnp, q_lpn, q_enp, q_epn, nI_leI, nI_ltI, nI_eq, if_pos, if_neg, ↓reduceIte, v5, s_vz2]; rfl
