-- one order of the text
theorem q_upd6 (g : Nat → Int32) (v0 v1 v2 v3 v4 v5 : Int32) : ∀ k, k < 6 → upd (upd (upd (upd (upd (upd g 0 v0) 1 v1) 2 v2) 3 v3) 4 v4) 5 v5 k = upd (upd (upd (upd (upd (upd (fun _ => nI 0) 0 v0) 1 v1) 2 v2) 3 v3) 4 v4) 5 v5 k := by
  intro k hk
  rcases (show k = 0 ∨ k = 1 ∨ k = 2 ∨ k = 3 ∨ k = 4 ∨ k = 5 by omega) with rfl | rfl | rfl | rfl | rfl | rfl <;> simp [upd]
theorem q_upd3 (g : Nat → Int32) (v0 v1 v2 : Int32) : ∀ k, k < 3 → upd (upd (upd g 0 v0) 1 v1) 2 v2 k = upd (upd (upd (fun _ => nI 0) 0 v0) 1 v1) 2 v2 k := by
  intro k hk
  rcases (show k = 0 ∨ k = 1 ∨ k = 2 by omega) with rfl | rfl | rfl <;> simp [upd]
theorem q_upd1 (g : Nat → Int32) (v0 : Int32) : ∀ k, k < 1 → upd g 0 v0 k = upd (fun _ => nI 0) 0 v0 k := by
  intro k hk
  rcases (show k = 0 by omega) with rfl
  simp [upd]
def q_p4 (z : Int32 × Int32 × Int32 × Int32 × (Nat → Int32)) : Int32 × Int32 := (z.1, z.2.2.2.1)
def OK (N n : Nat) (pp ux : Nat → Int32) (p : Nat) (L : Int32) (b q : Nat) (f : Nat → Int32) : Prop :=
  p < q ∧ q ≤ n ∧ ((L = nI 43 ∧ 1 ≤ b ∧ b ≤ 40 ∧ ∀ k, k < b → q_in (f k) (-9) 9) ∨ (L = nI 102 ∧ b = 3) ∨ (L = nI 109 ∧ b = 1) ∨ (L = nI 114 ∧ b = 6)) ∧
  (∀ a k g, ∃ g', p_X2_readOrder N (nI n) pp a k (nI p) g = some (nI 1, nI b, L, nI q, g') ∧ ∀ k, k < b → g' k = f k) ∧
  (∀ us ue um, p_X7_letter N us (nI n) ue (nI p) um ux = some (L, nI (p + 1))) ∧
  (∀ us ue um g, ∃ g', p_X7_isOrder N L us (nI n) ue (nI (p + 1)) um ux g = some (nI 1, nI q, nI b, g') ∧ ∀ k, k < b → g' k = f k)
def BAD (N n : Nat) (pp ux : Nat → Int32) (p : Nat) (L : Int32) (q : Nat) : Prop :=
  p ≤ q ∧ q ≤ n ∧
  (∀ a k g, (p_X2_readOrder N (nI n) pp a k (nI p) g).map q_p4 = some (nI 0, nI q)) ∧
  (∀ us ue um, p_X7_letter N us (nI n) ue (nI p) um ux = some (L, nI (p + 1))) ∧
  (∀ us ue um g, (p_X7_isOrder N L us (nI n) ue (nI (p + 1)) um ux g).map q_p2 = some (nI 0, nI q))
theorem s_isRun_0 (N : Nat) (us up ue ut um : Int32) (ux uo : Nat → Int32) : b_X7_isRun_44 N (nI 0) us up ue ut um ux uo = some (nI 0, ut, um, uo) := by
  unfold b_X7_isRun_44
  rw [if_pos (show nI 0 = (0 : Int32) from rfl)]
  rfl
theorem s_skip_t {N n p : Nat} {pp : Nat → Int32} {x : Int32} (hn : n ≤ 80) (hp : p < n) (h : pp p = x) (a k : Int32) : p_X2_skip N x (nI n) pp a k (nI p) = some (nI 1, nI (p + 1)) := by
  unfold p_X2_skip
  rw [s_codeAt_t hn hp]
  simp (disch := omega) only [q_lit, nI_add, pk_mul, k_let_eq, k_c1_some, k_c2_some, k_c3_some, k_c4_some, k_c5_some, k_c6_some, k_c7_some, k_c8_some, k_c9_some, k_c10_some, k_c11_some, k_c12_some, k_c13_some, k_c14_some, k_ld_nI, k_st_nI, k_nz_nI, k_bit0, k_bit1, pk_rem, pk_sub, q_nn, q_np, q_pn, q_lnp, q_lpn, q_enp, q_epn, nI_leI, nI_ltI, nI_eq, if_pos, if_neg, ↓reduceIte, h]
theorem s_letter_t {N n p : Nat} {ux : Nat → Int32} (hn : n ≤ 80) (hp : p < n) (us ue um : Int32) : p_X7_letter N us (nI n) ue (nI p) um ux = some (ux p, nI (p + 1)) := by
  unfold p_X7_letter
  simp (disch := omega) only [q_lit, nI_add, pk_mul, k_let_eq, k_c1_some, k_c2_some, k_c3_some, k_c4_some, k_c5_some, k_c6_some, k_c7_some, k_c8_some, k_c9_some, k_c10_some, k_c11_some, k_c12_some, k_c13_some, k_c14_some, k_ld_nI, k_st_nI, k_nz_nI, k_bit0, k_bit1, pk_rem, pk_sub, q_nn, q_np, q_pn, q_lnp, q_lpn, q_enp, q_epn, nI_leI, nI_ltI, nI_eq, if_pos, if_neg, ↓reduceIte]
theorem s_letter_f {N n p : Nat} {ux : Nat → Int32} (hn : n ≤ 80) (hp : n ≤ p) (hp2 : p < 20000) (us ue um : Int32) : p_X7_letter N us (nI n) ue (nI p) um ux = some (nI 0, nI (p + 1)) := by
  unfold p_X7_letter
  simp (disch := omega) only [q_lit, nI_add, pk_mul, k_let_eq, k_c1_some, k_c2_some, k_c3_some, k_c4_some, k_c5_some, k_c6_some, k_c7_some, k_c8_some, k_c9_some, k_c10_some, k_c11_some, k_c12_some, k_c13_some, k_c14_some, k_ld_nI, k_st_nI, k_nz_nI, k_bit0, k_bit1, pk_rem, pk_sub, q_nn, q_np, q_pn, q_lnp, q_lpn, q_enp, q_epn, nI_leI, nI_ltI, nI_eq, if_pos, if_neg, ↓reduceIte]
theorem e_oplus {N n : Nat} {pp ux : Nat → Int32} (hN : 20000 ≤ N) (hn : n ≤ 80) (hpp : ∀ i, i < n → pp i = ux i ∧ q_in (ux i) 33 126) {p : Nat} (hp : p < n) (hL : pp p = nI 43) :
    (∃ b q f, OK N n pp ux p (nI 43) b q f) ∨ (∃ q, BAD N n pp ux p (nI 43) q) := by
  have h10 : ¬ nI 1 = nI 0 := by decide
  have hc := s_codeAt_t (N := N) (pp := pp) hn hp
  rw [hL] at hc
  have hk := s_skip_t (N := N) hn hp hL
  have hl := s_letter_t (N := N) (ux := ux) hn hp
  rw [← (hpp p hp).1, hL] at hl
  rcases e_vals (N := N) hN hn hpp (p := (p + 1)) (by omega) (by omega) with ⟨b, q0, f, w1, w2, b0, c0, w5, A0, B0⟩ | ⟨r0, b0, c0, A0, B0⟩
  rotate_left
  · refine Or.inr ⟨r0, by omega, by omega, fun a k g => ?_, hl, fun us ue um g => ?_⟩
    · have ha := A0 (nI 43) g
      unfold p_X2_readOrder
      rw [hc, k_c1_some, if_pos (show nI 43 = (43 : Int32) from rfl)]
      simp only [q_lit]
      rw [hk, k_c2_some, if_neg h10]
      generalize p_X2_readValues N (nI n) pp (nI 0) (nI 43) (nI (p + 1)) g = z at ha ⊢
      rcases z with _ | ⟨z1, z2, z3, z4⟩
      · cases ha
      · have h1 : z1 = nI 0 := congrArg Prod.fst (Option.some.inj ha)
        have h2 : z3 = nI r0 := congrArg Prod.snd (Option.some.inj ha)
        subst h1 h2
        rw [k_c4_some, if_pos rfl]; rfl
    · have ha := B0 us ue g
      unfold p_X7_isOrder
      rw [if_pos (show nI 43 = (43 : Int32) from rfl)]
      simp only [q_lit]
      generalize p_X7_areValues N us (nI n) ue (nI (p + 1)) (nI 0) ux g = z at ha ⊢
      rcases z with _ | ⟨z1, z2, z3, z4⟩
      · cases ha
      · have h1 : z1 = nI 0 := congrArg Prod.fst (Option.some.inj ha)
        have h2 : z2 = nI r0 := congrArg Prod.snd (Option.some.inj ha)
        subst h1 h2
        rw [k_c4_some, k_bit0]; rfl
  refine Or.inl ⟨b, q0, f, by omega, by omega, Or.inl ⟨rfl, w1, w2, w5⟩, fun a k g => ⟨q_wv g f 0 b, ?_, fun k hk => q_wv_in (by omega) hk⟩, hl, fun us ue um g => ⟨q_wv g f 0 b, ?_, fun k hk => q_wv_in (by omega) hk⟩⟩
  · unfold p_X2_readOrder
    rw [hc, k_c1_some, if_pos (show nI 43 = (43 : Int32) from rfl)]
    simp only [q_lit]
    rw [hk, k_c2_some, if_neg h10, A0, k_c4_some, if_neg h10]
  · unfold p_X7_isOrder
    rw [if_pos (show nI 43 = (43 : Int32) from rfl)]
    simp only [q_lit]
    rw [B0, k_c4_some, k_bit1]
theorem e_omelt {N n : Nat} {pp ux : Nat → Int32} (hN : 20000 ≤ N) (hn : n ≤ 80) (hpp : ∀ i, i < n → pp i = ux i ∧ q_in (ux i) 33 126) {p : Nat} (hp : p < n) (hL : pp p = nI 109) :
    (∃ b q f, OK N n pp ux p (nI 109) b q f) ∨ (∃ q, BAD N n pp ux p (nI 109) q) := by
  have h10 : ¬ nI 1 = nI 0 := by decide
  have hc := s_codeAt_t (N := N) (pp := pp) hn hp
  rw [hL] at hc
  have hk := s_skip_t (N := N) hn hp hL
  have hl := s_letter_t (N := N) (ux := ux) hn hp
  rw [← (hpp p hp).1, hL] at hl
  rcases e_num (N := N) hn hpp (p := (p + 1)) (by omega) with ⟨v0, q0, b0, c0, A0, B0⟩ | ⟨A0, B0⟩
  rotate_left
  · refine Or.inr ⟨(p + 1), by omega, by omega, fun a k g => ?_, hl, fun us ue um g => ?_⟩
    · unfold p_X2_readOrder
      rw [hc, k_c1_some, if_neg (show ¬ nI 109 = (43 : Int32) by decide), if_neg (show ¬ nI 109 = (102 : Int32) by decide), if_pos (show nI 109 = (109 : Int32) from rfl)]
      simp only [q_lit]
      rw [hk, k_c2_some, if_neg h10, A0, k_c4_some, if_pos rfl]
      rfl
    · unfold p_X7_isOrder
      rw [if_neg (show ¬ nI 109 = (43 : Int32) by decide), if_neg (show ¬ nI 109 = (102 : Int32) by decide), if_pos (show nI 109 = (109 : Int32) from rfl)]
      simp only [q_lit]
      rw [B0, k_c4_some, k_bit0]
      rfl
  refine Or.inl ⟨1, q0, (upd (fun _ => nI 0) 0 (nI v0)), by omega, by omega, Or.inr (Or.inr (Or.inl ⟨rfl, rfl⟩)), fun a k g => ⟨(upd g 0 (nI v0)), ?_, q_upd1 g (nI v0)⟩, hl, fun us ue um g => ⟨(upd g 0 (nI v0)), ?_, q_upd1 g (nI v0)⟩⟩
  · unfold p_X2_readOrder
    rw [hc, k_c1_some, if_neg (show ¬ nI 109 = (43 : Int32) by decide), if_neg (show ¬ nI 109 = (102 : Int32) by decide), if_pos (show nI 109 = (109 : Int32) from rfl)]
    simp only [q_lit]
    rw [hk, k_c2_some, if_neg h10, A0 (0) (by omega), k_c4_some, if_neg h10]
  · unfold p_X7_isOrder
    rw [if_neg (show ¬ nI 109 = (43 : Int32) by decide), if_neg (show ¬ nI 109 = (102 : Int32) by decide), if_pos (show nI 109 = (109 : Int32) from rfl)]
    simp only [q_lit]
    rw [B0 (0) (by omega), k_c4_some, k_bit1]
theorem e_ofile {N n : Nat} {pp ux : Nat → Int32} (hN : 20000 ≤ N) (hn : n ≤ 80) (hpp : ∀ i, i < n → pp i = ux i ∧ q_in (ux i) 33 126) {p : Nat} (hp : p < n) (hL : pp p = nI 102) :
    (∃ b q f, OK N n pp ux p (nI 102) b q f) ∨ (∃ q, BAD N n pp ux p (nI 102) q) := by
  have h10 : ¬ nI 1 = nI 0 := by decide
  have hc := s_codeAt_t (N := N) (pp := pp) hn hp
  rw [hL] at hc
  have hk := s_skip_t (N := N) hn hp hL
  have hl := s_letter_t (N := N) (ux := ux) hn hp
  rw [← (hpp p hp).1, hL] at hl
  rcases e_num (N := N) hn hpp (p := (p + 1)) (by omega) with ⟨v0, q0, b0, c0, A0, B0⟩ | ⟨A0, B0⟩
  rotate_left
  · refine Or.inr ⟨(p + 1), by omega, by omega, fun a k g => ?_, hl, fun us ue um g => ?_⟩
    · unfold p_X2_readOrder
      rw [hc, k_c1_some, if_neg (show ¬ nI 102 = (43 : Int32) by decide), if_pos (show nI 102 = (102 : Int32) from rfl)]
      simp only [q_lit]
      rw [hk, k_c2_some, if_neg h10, A0, k_c4_some, if_pos rfl]
      rfl
    · unfold p_X7_isOrder
      rw [if_neg (show ¬ nI 102 = (43 : Int32) by decide), if_pos (show nI 102 = (102 : Int32) from rfl)]
      simp only [q_lit]
      rw [B0, k_c4_some, if_pos rfl]
      rfl
  rcases e_skip (N := N) hn hpp (x := 46) (by omega) (by omega) (p := q0) (by omega) with ⟨b1, -, A1, B1⟩ | ⟨-, A1, B1⟩
  rotate_left
  · refine Or.inr ⟨q0, by omega, by omega, fun a k g => ?_, hl, fun us ue um g => ?_⟩
    · unfold p_X2_readOrder
      rw [hc, k_c1_some, if_neg (show ¬ nI 102 = (43 : Int32) by decide), if_pos (show nI 102 = (102 : Int32) from rfl)]
      simp only [q_lit]
      rw [hk, k_c2_some, if_neg h10, A0 (0) (by omega), k_c4_some, if_neg h10, A1, k_c2_some, if_pos rfl]
      rfl
    · unfold p_X7_isOrder
      rw [if_neg (show ¬ nI 102 = (43 : Int32) by decide), if_pos (show nI 102 = (102 : Int32) from rfl)]
      simp only [q_lit]
      rw [B0 (0) (by omega), k_c4_some, if_neg h10, B1, k_c2_some, if_pos rfl]
      rfl
  rcases e_num (N := N) hn hpp (p := (q0 + 1)) (by omega) with ⟨v2, q2, b2, c2, A2, B2⟩ | ⟨A2, B2⟩
  rotate_left
  · refine Or.inr ⟨(q0 + 1), by omega, by omega, fun a k g => ?_, hl, fun us ue um g => ?_⟩
    · unfold p_X2_readOrder
      rw [hc, k_c1_some, if_neg (show ¬ nI 102 = (43 : Int32) by decide), if_pos (show nI 102 = (102 : Int32) from rfl)]
      simp only [q_lit]
      rw [hk, k_c2_some, if_neg h10, A0 (0) (by omega), k_c4_some, if_neg h10, A1, k_c2_some, if_neg h10, A2, k_c4_some, if_pos rfl]
      rfl
    · unfold p_X7_isOrder
      rw [if_neg (show ¬ nI 102 = (43 : Int32) by decide), if_pos (show nI 102 = (102 : Int32) from rfl)]
      simp only [q_lit]
      rw [B0 (0) (by omega), k_c4_some, if_neg h10, B1, k_c2_some, if_neg h10, B2, k_c4_some, if_pos rfl]
      rfl
  rcases e_skip (N := N) hn hpp (x := 61) (by omega) (by omega) (p := q2) (by omega) with ⟨b3, -, A3, B3⟩ | ⟨-, A3, B3⟩
  rotate_left
  · refine Or.inr ⟨q2, by omega, by omega, fun a k g => ?_, hl, fun us ue um g => ?_⟩
    · unfold p_X2_readOrder
      rw [hc, k_c1_some, if_neg (show ¬ nI 102 = (43 : Int32) by decide), if_pos (show nI 102 = (102 : Int32) from rfl)]
      simp only [q_lit]
      rw [hk, k_c2_some, if_neg h10, A0 (0) (by omega), k_c4_some, if_neg h10, A1, k_c2_some, if_neg h10, A2 (0 + 1) (by omega), k_c4_some, if_neg h10, A3, k_c2_some, if_pos rfl]
      rfl
    · unfold p_X7_isOrder
      rw [if_neg (show ¬ nI 102 = (43 : Int32) by decide), if_pos (show nI 102 = (102 : Int32) from rfl)]
      simp only [q_lit]
      rw [B0 (0) (by omega), k_c4_some, if_neg h10, B1, k_c2_some, if_neg h10, B2 (0 + 1) (by omega), k_c4_some, if_neg h10, B3, k_c2_some, if_pos rfl]
      rfl
  rcases e_value (N := N) hn hpp (p := (q2 + 1)) (by omega) with ⟨v4, q4, b4, c4, -, A4, B4⟩ | ⟨r4, b4, c4, A4, B4⟩
  rotate_left
  · refine Or.inr ⟨r4, by omega, by omega, fun a k g => ?_, hl, fun us ue um g => ?_⟩
    · unfold p_X2_readOrder
      rw [hc, k_c1_some, if_neg (show ¬ nI 102 = (43 : Int32) by decide), if_pos (show nI 102 = (102 : Int32) from rfl)]
      simp only [q_lit]
      rw [hk, k_c2_some, if_neg h10, A0 (0) (by omega), k_c4_some, if_neg h10, A1, k_c2_some, if_neg h10, A2 (0 + 1) (by omega), k_c4_some, if_neg h10, A3, k_c2_some, if_neg h10, A4, k_c4_some, if_pos rfl]
      rfl
    · unfold p_X7_isOrder
      rw [if_neg (show ¬ nI 102 = (43 : Int32) by decide), if_pos (show nI 102 = (102 : Int32) from rfl)]
      simp only [q_lit]
      rw [B0 (0) (by omega), k_c4_some, if_neg h10, B1, k_c2_some, if_neg h10, B2 (0 + 1) (by omega), k_c4_some, if_neg h10, B3, k_c2_some, if_neg h10, B4, k_c4_some, if_pos rfl]
      rfl
  refine Or.inl ⟨3, q4, (upd (upd (upd (fun _ => nI 0) 0 (nI v0)) 1 (nI v2)) 2 v4), by omega, by omega, Or.inr (Or.inl ⟨rfl, rfl⟩), fun a k g => ⟨(upd (upd (upd g 0 (nI v0)) 1 (nI v2)) 2 v4), ?_, q_upd3 g (nI v0) (nI v2) v4⟩, hl, fun us ue um g => ⟨(upd (upd (upd g 0 (nI v0)) 1 (nI v2)) 2 v4), ?_, q_upd3 g (nI v0) (nI v2) v4⟩⟩
  · unfold p_X2_readOrder
    rw [hc, k_c1_some, if_neg (show ¬ nI 102 = (43 : Int32) by decide), if_pos (show nI 102 = (102 : Int32) from rfl)]
    simp only [q_lit]
    rw [hk, k_c2_some, if_neg h10, A0 (0) (by omega), k_c4_some, if_neg h10, A1, k_c2_some, if_neg h10, A2 (0 + 1) (by omega), k_c4_some, if_neg h10, A3, k_c2_some, if_neg h10, A4 (0 + 1 + 1) (by omega), k_c4_some, if_neg h10]
  · unfold p_X7_isOrder
    rw [if_neg (show ¬ nI 102 = (43 : Int32) by decide), if_pos (show nI 102 = (102 : Int32) from rfl)]
    simp only [q_lit]
    rw [B0 (0) (by omega), k_c4_some, if_neg h10, B1, k_c2_some, if_neg h10, B2 (0 + 1) (by omega), k_c4_some, if_neg h10, B3, k_c2_some, if_neg h10, B4 (0 + 1 + 1) (by omega), k_c4_some, if_neg h10]
theorem e_orun {N n : Nat} {pp ux : Nat → Int32} (hN : 20000 ≤ N) (hn : n ≤ 80) (hpp : ∀ i, i < n → pp i = ux i ∧ q_in (ux i) 33 126) {p : Nat} (hp : p < n) (hL : pp p = nI 114) :
    (∃ b q f, OK N n pp ux p (nI 114) b q f) ∨ (∃ q, BAD N n pp ux p (nI 114) q) := by
  have h10 : ¬ nI 1 = nI 0 := by decide
  have hc := s_codeAt_t (N := N) (pp := pp) hn hp
  rw [hL] at hc
  have hk := s_skip_t (N := N) hn hp hL
  have hl := s_letter_t (N := N) (ux := ux) hn hp
  rw [← (hpp p hp).1, hL] at hl
  rcases e_num (N := N) hn hpp (p := (p + 1)) (by omega) with ⟨v0, q0, b0, c0, A0, B0⟩ | ⟨A0, B0⟩
  rotate_left
  · refine Or.inr ⟨(p + 1), by omega, by omega, fun a k g => ?_, hl, fun us ue um g => ?_⟩
    · unfold p_X2_readOrder
      rw [hc, k_c1_some, if_neg (show ¬ nI 114 = (43 : Int32) by decide), if_neg (show ¬ nI 114 = (102 : Int32) by decide), if_neg (show ¬ nI 114 = (109 : Int32) by decide), if_pos (show nI 114 = (114 : Int32) from rfl)]
      simp only [q_lit]
      rw [hk, k_c2_some, if_neg h10, A0, k_c4_some, if_pos rfl]
      rfl
    · unfold p_X7_isOrder p_X7_isRun
      rw [if_neg (show ¬ nI 114 = (43 : Int32) by decide), if_neg (show ¬ nI 114 = (102 : Int32) by decide), if_neg (show ¬ nI 114 = (109 : Int32) by decide), if_pos (show nI 114 = (114 : Int32) from rfl)]
      simp only [q_lit]
      rw [B0, k_c4_some, if_pos rfl, s_isRun_0, k_c4_some, k_bit0]
      rfl
  rcases e_skip (N := N) hn hpp (x := 47) (by omega) (by omega) (p := q0) (by omega) with ⟨b1, -, A1, B1⟩ | ⟨-, A1, B1⟩
  rotate_left
  · refine Or.inr ⟨q0, by omega, by omega, fun a k g => ?_, hl, fun us ue um g => ?_⟩
    · unfold p_X2_readOrder
      rw [hc, k_c1_some, if_neg (show ¬ nI 114 = (43 : Int32) by decide), if_neg (show ¬ nI 114 = (102 : Int32) by decide), if_neg (show ¬ nI 114 = (109 : Int32) by decide), if_pos (show nI 114 = (114 : Int32) from rfl)]
      simp only [q_lit]
      rw [hk, k_c2_some, if_neg h10, A0 (0) (by omega), k_c4_some, if_neg h10, A1, k_c2_some, if_pos rfl]
      rfl
    · unfold p_X7_isOrder p_X7_isRun
      rw [if_neg (show ¬ nI 114 = (43 : Int32) by decide), if_neg (show ¬ nI 114 = (102 : Int32) by decide), if_neg (show ¬ nI 114 = (109 : Int32) by decide), if_pos (show nI 114 = (114 : Int32) from rfl)]
      simp only [q_lit]
      rw [B0 (0) (by omega), k_c4_some, if_neg h10, B1, k_c2_some, if_pos rfl, s_isRun_0, k_c4_some, k_bit0]
      rfl
  rcases e_num (N := N) hn hpp (p := (q0 + 1)) (by omega) with ⟨v2, q2, b2, c2, A2, B2⟩ | ⟨A2, B2⟩
  rotate_left
  · refine Or.inr ⟨(q0 + 1), by omega, by omega, fun a k g => ?_, hl, fun us ue um g => ?_⟩
    · unfold p_X2_readOrder
      rw [hc, k_c1_some, if_neg (show ¬ nI 114 = (43 : Int32) by decide), if_neg (show ¬ nI 114 = (102 : Int32) by decide), if_neg (show ¬ nI 114 = (109 : Int32) by decide), if_pos (show nI 114 = (114 : Int32) from rfl)]
      simp only [q_lit]
      rw [hk, k_c2_some, if_neg h10, A0 (0) (by omega), k_c4_some, if_neg h10, A1, k_c2_some, if_neg h10, A2, k_c4_some, if_pos rfl]
      rfl
    · unfold p_X7_isOrder p_X7_isRun
      rw [if_neg (show ¬ nI 114 = (43 : Int32) by decide), if_neg (show ¬ nI 114 = (102 : Int32) by decide), if_neg (show ¬ nI 114 = (109 : Int32) by decide), if_pos (show nI 114 = (114 : Int32) from rfl)]
      simp only [q_lit]
      rw [B0 (0) (by omega), k_c4_some, if_neg h10, B1, k_c2_some, if_neg h10, B2, k_c4_some, if_pos rfl, s_isRun_0, k_c4_some, k_bit0]
      rfl
  rcases e_skip (N := N) hn hpp (x := 64) (by omega) (by omega) (p := q2) (by omega) with ⟨b3, -, A3, B3⟩ | ⟨-, A3, B3⟩
  rotate_left
  · refine Or.inr ⟨q2, by omega, by omega, fun a k g => ?_, hl, fun us ue um g => ?_⟩
    · unfold p_X2_readOrder
      rw [hc, k_c1_some, if_neg (show ¬ nI 114 = (43 : Int32) by decide), if_neg (show ¬ nI 114 = (102 : Int32) by decide), if_neg (show ¬ nI 114 = (109 : Int32) by decide), if_pos (show nI 114 = (114 : Int32) from rfl)]
      simp only [q_lit]
      rw [hk, k_c2_some, if_neg h10, A0 (0) (by omega), k_c4_some, if_neg h10, A1, k_c2_some, if_neg h10, A2 (0 + 1) (by omega), k_c4_some, if_neg h10, A3, k_c2_some, if_pos rfl]
      rfl
    · unfold p_X7_isOrder p_X7_isRun
      rw [if_neg (show ¬ nI 114 = (43 : Int32) by decide), if_neg (show ¬ nI 114 = (102 : Int32) by decide), if_neg (show ¬ nI 114 = (109 : Int32) by decide), if_pos (show nI 114 = (114 : Int32) from rfl)]
      simp only [q_lit]
      rw [B0 (0) (by omega), k_c4_some, if_neg h10, B1, k_c2_some, if_neg h10, B2 (0 + 1) (by omega), k_c4_some, if_neg h10, B3, k_c2_some, if_pos rfl, s_isRun_0, k_c4_some, k_bit0]
      rfl
  rcases e_num (N := N) hn hpp (p := (q2 + 1)) (by omega) with ⟨v4, q4, b4, c4, A4, B4⟩ | ⟨A4, B4⟩
  rotate_left
  · refine Or.inr ⟨(q2 + 1), by omega, by omega, fun a k g => ?_, hl, fun us ue um g => ?_⟩
    · unfold p_X2_readOrder
      rw [hc, k_c1_some, if_neg (show ¬ nI 114 = (43 : Int32) by decide), if_neg (show ¬ nI 114 = (102 : Int32) by decide), if_neg (show ¬ nI 114 = (109 : Int32) by decide), if_pos (show nI 114 = (114 : Int32) from rfl)]
      simp only [q_lit]
      rw [hk, k_c2_some, if_neg h10, A0 (0) (by omega), k_c4_some, if_neg h10, A1, k_c2_some, if_neg h10, A2 (0 + 1) (by omega), k_c4_some, if_neg h10, A3, k_c2_some, if_neg h10, A4, k_c4_some, if_pos rfl]
      rfl
    · unfold p_X7_isOrder p_X7_isRun
      rw [if_neg (show ¬ nI 114 = (43 : Int32) by decide), if_neg (show ¬ nI 114 = (102 : Int32) by decide), if_neg (show ¬ nI 114 = (109 : Int32) by decide), if_pos (show nI 114 = (114 : Int32) from rfl)]
      simp only [q_lit]
      rw [B0 (0) (by omega), k_c4_some, if_neg h10, B1, k_c2_some, if_neg h10, B2 (0 + 1) (by omega), k_c4_some, if_neg h10, B3, k_c2_some, if_neg h10, B4, k_c4_some, if_pos rfl, s_isRun_0, k_c4_some, k_bit0]
      rfl
  rcases e_skip (N := N) hn hpp (x := 95) (by omega) (by omega) (p := q4) (by omega) with ⟨b5, -, A5, B5⟩ | ⟨-, A5, B5⟩
  rotate_left
  · refine Or.inr ⟨q4, by omega, by omega, fun a k g => ?_, hl, fun us ue um g => ?_⟩
    · unfold p_X2_readOrder
      rw [hc, k_c1_some, if_neg (show ¬ nI 114 = (43 : Int32) by decide), if_neg (show ¬ nI 114 = (102 : Int32) by decide), if_neg (show ¬ nI 114 = (109 : Int32) by decide), if_pos (show nI 114 = (114 : Int32) from rfl)]
      simp only [q_lit]
      rw [hk, k_c2_some, if_neg h10, A0 (0) (by omega), k_c4_some, if_neg h10, A1, k_c2_some, if_neg h10, A2 (0 + 1) (by omega), k_c4_some, if_neg h10, A3, k_c2_some, if_neg h10, A4 (0 + 1 + 1) (by omega), k_c4_some, if_neg h10, A5, k_c2_some, if_pos rfl]
      rfl
    · unfold p_X7_isOrder p_X7_isRun
      rw [if_neg (show ¬ nI 114 = (43 : Int32) by decide), if_neg (show ¬ nI 114 = (102 : Int32) by decide), if_neg (show ¬ nI 114 = (109 : Int32) by decide), if_pos (show nI 114 = (114 : Int32) from rfl)]
      simp only [q_lit]
      rw [B0 (0) (by omega), k_c4_some, if_neg h10, B1, k_c2_some, if_neg h10, B2 (0 + 1) (by omega), k_c4_some, if_neg h10, B3, k_c2_some, if_neg h10, B4 (0 + 1 + 1) (by omega), k_c4_some, if_neg h10]
      unfold b_X7_isRun_44
      rw [if_neg (show ¬ nI 1 = (0 : Int32) by decide)]
      simp only [q_lit]
      rw [B5, k_c2_some, if_pos rfl, k_c4_some, k_bit0]
      rfl
  rcases e_num (N := N) hn hpp (p := (q4 + 1)) (by omega) with ⟨v6, q6, b6, c6, A6, B6⟩ | ⟨A6, B6⟩
  rotate_left
  · refine Or.inr ⟨(q4 + 1), by omega, by omega, fun a k g => ?_, hl, fun us ue um g => ?_⟩
    · unfold p_X2_readOrder
      rw [hc, k_c1_some, if_neg (show ¬ nI 114 = (43 : Int32) by decide), if_neg (show ¬ nI 114 = (102 : Int32) by decide), if_neg (show ¬ nI 114 = (109 : Int32) by decide), if_pos (show nI 114 = (114 : Int32) from rfl)]
      simp only [q_lit]
      rw [hk, k_c2_some, if_neg h10, A0 (0) (by omega), k_c4_some, if_neg h10, A1, k_c2_some, if_neg h10, A2 (0 + 1) (by omega), k_c4_some, if_neg h10, A3, k_c2_some, if_neg h10, A4 (0 + 1 + 1) (by omega), k_c4_some, if_neg h10, A5, k_c2_some, if_neg h10, A6, k_c4_some, if_pos rfl]
      rfl
    · unfold p_X7_isOrder p_X7_isRun
      rw [if_neg (show ¬ nI 114 = (43 : Int32) by decide), if_neg (show ¬ nI 114 = (102 : Int32) by decide), if_neg (show ¬ nI 114 = (109 : Int32) by decide), if_pos (show nI 114 = (114 : Int32) from rfl)]
      simp only [q_lit]
      rw [B0 (0) (by omega), k_c4_some, if_neg h10, B1, k_c2_some, if_neg h10, B2 (0 + 1) (by omega), k_c4_some, if_neg h10, B3, k_c2_some, if_neg h10, B4 (0 + 1 + 1) (by omega), k_c4_some, if_neg h10]
      unfold b_X7_isRun_44
      rw [if_neg (show ¬ nI 1 = (0 : Int32) by decide)]
      simp only [q_lit]
      rw [B5, k_c2_some, if_neg h10, B6, k_c4_some, if_pos rfl, k_c4_some, k_bit0]
      rfl
  rcases e_skip (N := N) hn hpp (x := 58) (by omega) (by omega) (p := q6) (by omega) with ⟨b7, -, A7, B7⟩ | ⟨-, A7, B7⟩
  rotate_left
  · refine Or.inr ⟨q6, by omega, by omega, fun a k g => ?_, hl, fun us ue um g => ?_⟩
    · unfold p_X2_readOrder
      rw [hc, k_c1_some, if_neg (show ¬ nI 114 = (43 : Int32) by decide), if_neg (show ¬ nI 114 = (102 : Int32) by decide), if_neg (show ¬ nI 114 = (109 : Int32) by decide), if_pos (show nI 114 = (114 : Int32) from rfl)]
      simp only [q_lit]
      rw [hk, k_c2_some, if_neg h10, A0 (0) (by omega), k_c4_some, if_neg h10, A1, k_c2_some, if_neg h10, A2 (0 + 1) (by omega), k_c4_some, if_neg h10, A3, k_c2_some, if_neg h10, A4 (0 + 1 + 1) (by omega), k_c4_some, if_neg h10, A5, k_c2_some, if_neg h10, A6 (0 + 1 + 1 + 1) (by omega), k_c4_some, if_neg h10, A7, k_c2_some, if_pos rfl]
      rfl
    · unfold p_X7_isOrder p_X7_isRun
      rw [if_neg (show ¬ nI 114 = (43 : Int32) by decide), if_neg (show ¬ nI 114 = (102 : Int32) by decide), if_neg (show ¬ nI 114 = (109 : Int32) by decide), if_pos (show nI 114 = (114 : Int32) from rfl)]
      simp only [q_lit]
      rw [B0 (0) (by omega), k_c4_some, if_neg h10, B1, k_c2_some, if_neg h10, B2 (0 + 1) (by omega), k_c4_some, if_neg h10, B3, k_c2_some, if_neg h10, B4 (0 + 1 + 1) (by omega), k_c4_some, if_neg h10]
      unfold b_X7_isRun_44
      rw [if_neg (show ¬ nI 1 = (0 : Int32) by decide)]
      simp only [q_lit]
      rw [B5, k_c2_some, if_neg h10, B6 (0 + 1 + 1 + 1) (by omega), k_c4_some, if_neg h10, B7, k_c2_some, if_pos rfl, k_c4_some, k_bit0]
      rfl
  rcases e_num (N := N) hn hpp (p := (q6 + 1)) (by omega) with ⟨v8, q8, b8, c8, A8, B8⟩ | ⟨A8, B8⟩
  rotate_left
  · refine Or.inr ⟨(q6 + 1), by omega, by omega, fun a k g => ?_, hl, fun us ue um g => ?_⟩
    · unfold p_X2_readOrder
      rw [hc, k_c1_some, if_neg (show ¬ nI 114 = (43 : Int32) by decide), if_neg (show ¬ nI 114 = (102 : Int32) by decide), if_neg (show ¬ nI 114 = (109 : Int32) by decide), if_pos (show nI 114 = (114 : Int32) from rfl)]
      simp only [q_lit]
      rw [hk, k_c2_some, if_neg h10, A0 (0) (by omega), k_c4_some, if_neg h10, A1, k_c2_some, if_neg h10, A2 (0 + 1) (by omega), k_c4_some, if_neg h10, A3, k_c2_some, if_neg h10, A4 (0 + 1 + 1) (by omega), k_c4_some, if_neg h10, A5, k_c2_some, if_neg h10, A6 (0 + 1 + 1 + 1) (by omega), k_c4_some, if_neg h10, A7, k_c2_some, if_neg h10, A8, k_c4_some, if_pos rfl]
      rfl
    · unfold p_X7_isOrder p_X7_isRun
      rw [if_neg (show ¬ nI 114 = (43 : Int32) by decide), if_neg (show ¬ nI 114 = (102 : Int32) by decide), if_neg (show ¬ nI 114 = (109 : Int32) by decide), if_pos (show nI 114 = (114 : Int32) from rfl)]
      simp only [q_lit]
      rw [B0 (0) (by omega), k_c4_some, if_neg h10, B1, k_c2_some, if_neg h10, B2 (0 + 1) (by omega), k_c4_some, if_neg h10, B3, k_c2_some, if_neg h10, B4 (0 + 1 + 1) (by omega), k_c4_some, if_neg h10]
      unfold b_X7_isRun_44
      rw [if_neg (show ¬ nI 1 = (0 : Int32) by decide)]
      simp only [q_lit]
      rw [B5, k_c2_some, if_neg h10, B6 (0 + 1 + 1 + 1) (by omega), k_c4_some, if_neg h10, B7, k_c2_some, if_neg h10, B8, k_c4_some, if_pos rfl, k_c4_some, k_bit0]
      rfl
  rcases e_skip (N := N) hn hpp (x := 42) (by omega) (by omega) (p := q8) (by omega) with ⟨b9, -, A9, B9⟩ | ⟨-, A9, B9⟩
  rotate_left
  · refine Or.inr ⟨q8, by omega, by omega, fun a k g => ?_, hl, fun us ue um g => ?_⟩
    · unfold p_X2_readOrder
      rw [hc, k_c1_some, if_neg (show ¬ nI 114 = (43 : Int32) by decide), if_neg (show ¬ nI 114 = (102 : Int32) by decide), if_neg (show ¬ nI 114 = (109 : Int32) by decide), if_pos (show nI 114 = (114 : Int32) from rfl)]
      simp only [q_lit]
      rw [hk, k_c2_some, if_neg h10, A0 (0) (by omega), k_c4_some, if_neg h10, A1, k_c2_some, if_neg h10, A2 (0 + 1) (by omega), k_c4_some, if_neg h10, A3, k_c2_some, if_neg h10, A4 (0 + 1 + 1) (by omega), k_c4_some, if_neg h10, A5, k_c2_some, if_neg h10, A6 (0 + 1 + 1 + 1) (by omega), k_c4_some, if_neg h10, A7, k_c2_some, if_neg h10, A8 (0 + 1 + 1 + 1 + 1) (by omega), k_c4_some, if_neg h10, A9, k_c2_some, if_pos rfl]
      rfl
    · unfold p_X7_isOrder p_X7_isRun
      rw [if_neg (show ¬ nI 114 = (43 : Int32) by decide), if_neg (show ¬ nI 114 = (102 : Int32) by decide), if_neg (show ¬ nI 114 = (109 : Int32) by decide), if_pos (show nI 114 = (114 : Int32) from rfl)]
      simp only [q_lit]
      rw [B0 (0) (by omega), k_c4_some, if_neg h10, B1, k_c2_some, if_neg h10, B2 (0 + 1) (by omega), k_c4_some, if_neg h10, B3, k_c2_some, if_neg h10, B4 (0 + 1 + 1) (by omega), k_c4_some, if_neg h10]
      unfold b_X7_isRun_44
      rw [if_neg (show ¬ nI 1 = (0 : Int32) by decide)]
      simp only [q_lit]
      rw [B5, k_c2_some, if_neg h10, B6 (0 + 1 + 1 + 1) (by omega), k_c4_some, if_neg h10, B7, k_c2_some, if_neg h10, B8 (0 + 1 + 1 + 1 + 1) (by omega), k_c4_some, if_neg h10, B9, k_c2_some, if_pos rfl, k_c4_some, k_bit0]
      rfl
  rcases e_num (N := N) hn hpp (p := (q8 + 1)) (by omega) with ⟨v10, q10, b10, c10, A10, B10⟩ | ⟨A10, B10⟩
  rotate_left
  · refine Or.inr ⟨(q8 + 1), by omega, by omega, fun a k g => ?_, hl, fun us ue um g => ?_⟩
    · unfold p_X2_readOrder
      rw [hc, k_c1_some, if_neg (show ¬ nI 114 = (43 : Int32) by decide), if_neg (show ¬ nI 114 = (102 : Int32) by decide), if_neg (show ¬ nI 114 = (109 : Int32) by decide), if_pos (show nI 114 = (114 : Int32) from rfl)]
      simp only [q_lit]
      rw [hk, k_c2_some, if_neg h10, A0 (0) (by omega), k_c4_some, if_neg h10, A1, k_c2_some, if_neg h10, A2 (0 + 1) (by omega), k_c4_some, if_neg h10, A3, k_c2_some, if_neg h10, A4 (0 + 1 + 1) (by omega), k_c4_some, if_neg h10, A5, k_c2_some, if_neg h10, A6 (0 + 1 + 1 + 1) (by omega), k_c4_some, if_neg h10, A7, k_c2_some, if_neg h10, A8 (0 + 1 + 1 + 1 + 1) (by omega), k_c4_some, if_neg h10, A9, k_c2_some, if_neg h10, A10, k_c4_some, if_pos rfl]
      rfl
    · unfold p_X7_isOrder p_X7_isRun
      rw [if_neg (show ¬ nI 114 = (43 : Int32) by decide), if_neg (show ¬ nI 114 = (102 : Int32) by decide), if_neg (show ¬ nI 114 = (109 : Int32) by decide), if_pos (show nI 114 = (114 : Int32) from rfl)]
      simp only [q_lit]
      rw [B0 (0) (by omega), k_c4_some, if_neg h10, B1, k_c2_some, if_neg h10, B2 (0 + 1) (by omega), k_c4_some, if_neg h10, B3, k_c2_some, if_neg h10, B4 (0 + 1 + 1) (by omega), k_c4_some, if_neg h10]
      unfold b_X7_isRun_44
      rw [if_neg (show ¬ nI 1 = (0 : Int32) by decide)]
      simp only [q_lit]
      rw [B5, k_c2_some, if_neg h10, B6 (0 + 1 + 1 + 1) (by omega), k_c4_some, if_neg h10, B7, k_c2_some, if_neg h10, B8 (0 + 1 + 1 + 1 + 1) (by omega), k_c4_some, if_neg h10, B9, k_c2_some, if_neg h10, B10, k_c4_some, if_pos rfl, k_c4_some, k_bit0]
      rfl
  refine Or.inl ⟨6, q10, (upd (upd (upd (upd (upd (upd (fun _ => nI 0) 0 (nI v0)) 1 (nI v2)) 2 (nI v4)) 3 (nI v6)) 4 (nI v8)) 5 (nI v10)), by omega, by omega, Or.inr (Or.inr (Or.inr ⟨rfl, rfl⟩)), fun a k g => ⟨(upd (upd (upd (upd (upd (upd g 0 (nI v0)) 1 (nI v2)) 2 (nI v4)) 3 (nI v6)) 4 (nI v8)) 5 (nI v10)), ?_, q_upd6 g (nI v0) (nI v2) (nI v4) (nI v6) (nI v8) (nI v10)⟩, hl, fun us ue um g => ⟨(upd (upd (upd (upd (upd (upd g 0 (nI v0)) 1 (nI v2)) 2 (nI v4)) 3 (nI v6)) 4 (nI v8)) 5 (nI v10)), ?_, q_upd6 g (nI v0) (nI v2) (nI v4) (nI v6) (nI v8) (nI v10)⟩⟩
  · unfold p_X2_readOrder
    rw [hc, k_c1_some, if_neg (show ¬ nI 114 = (43 : Int32) by decide), if_neg (show ¬ nI 114 = (102 : Int32) by decide), if_neg (show ¬ nI 114 = (109 : Int32) by decide), if_pos (show nI 114 = (114 : Int32) from rfl)]
    simp only [q_lit]
    rw [hk, k_c2_some, if_neg h10, A0 (0) (by omega), k_c4_some, if_neg h10, A1, k_c2_some, if_neg h10, A2 (0 + 1) (by omega), k_c4_some, if_neg h10, A3, k_c2_some, if_neg h10, A4 (0 + 1 + 1) (by omega), k_c4_some, if_neg h10, A5, k_c2_some, if_neg h10, A6 (0 + 1 + 1 + 1) (by omega), k_c4_some, if_neg h10, A7, k_c2_some, if_neg h10, A8 (0 + 1 + 1 + 1 + 1) (by omega), k_c4_some, if_neg h10, A9, k_c2_some, if_neg h10, A10 (0 + 1 + 1 + 1 + 1 + 1) (by omega), k_c4_some, if_neg h10]
  · unfold p_X7_isOrder p_X7_isRun
    rw [if_neg (show ¬ nI 114 = (43 : Int32) by decide), if_neg (show ¬ nI 114 = (102 : Int32) by decide), if_neg (show ¬ nI 114 = (109 : Int32) by decide), if_pos (show nI 114 = (114 : Int32) from rfl)]
    simp only [q_lit]
    rw [B0 (0) (by omega), k_c4_some, if_neg h10, B1, k_c2_some, if_neg h10, B2 (0 + 1) (by omega), k_c4_some, if_neg h10, B3, k_c2_some, if_neg h10, B4 (0 + 1 + 1) (by omega), k_c4_some, if_neg h10]
    unfold b_X7_isRun_44
    rw [if_neg (show ¬ nI 1 = (0 : Int32) by decide)]
    simp only [q_lit]
    rw [B5, k_c2_some, if_neg h10, B6 (0 + 1 + 1 + 1) (by omega), k_c4_some, if_neg h10, B7, k_c2_some, if_neg h10, B8 (0 + 1 + 1 + 1 + 1) (by omega), k_c4_some, if_neg h10, B9, k_c2_some, if_neg h10, B10 (0 + 1 + 1 + 1 + 1 + 1) (by omega), k_c4_some, if_neg h10, k_c4_some, k_bit1]
theorem e_order {N n : Nat} {pp ux : Nat → Int32} (hN : 20000 ≤ N) (hn : n ≤ 80) (hpp : ∀ i, i < n → pp i = ux i ∧ q_in (ux i) 33 126) {p : Nat} (hp : p ≤ n) :
    (∃ L b q f, OK N n pp ux p L b q f) ∨ (∃ L q, BAD N n pp ux p L q) := by
  by_cases hpn : p < n
  rotate_left
  · have he : p = n := by omega
    subst he
    refine Or.inr ⟨nI 0, p, by omega, by omega, fun a k g => ?_, s_letter_f hn (by omega) (by omega), fun us ue um g => ?_⟩
    · unfold p_X2_readOrder; rw [s_codeAt_f hn (by omega) (by omega), k_c1_some, if_neg (by decide), if_neg (by decide), if_neg (by decide), if_neg (by decide)]; rfl
    · unfold p_X7_isOrder; rw [if_neg (by decide), if_neg (by decide), if_neg (by decide), if_neg (by decide)]; simp only [q_lit]; rw [pk_sub (by omega), k_let_eq, Nat.add_sub_cancel]; rfl
  have hc := s_codeAt_t (N := N) (pp := pp) hn hpn
  have hl := s_letter_t (N := N) (ux := ux) hn hpn
  obtain ⟨l, l1, l2, e⟩ := q_in_nat (a := 33) (b := 126) (by omega) (hpp p hpn).2
  have e2 := (hpp p hpn).1
  rw [e] at e2 hl
  rw [e2] at hc
  by_cases h1 : l = 43
  · subst h1
    rcases e_oplus hN hn hpp hpn e2 with ⟨b, q, f, h⟩ | ⟨q, h⟩
    · exact Or.inl ⟨nI 43, b, q, f, h⟩
    · exact Or.inr ⟨nI 43, q, h⟩
  by_cases h2 : l = 102
  · subst h2
    rcases e_ofile hN hn hpp hpn e2 with ⟨b, q, f, h⟩ | ⟨q, h⟩
    · exact Or.inl ⟨nI 102, b, q, f, h⟩
    · exact Or.inr ⟨nI 102, q, h⟩
  by_cases h3 : l = 109
  · subst h3
    rcases e_omelt hN hn hpp hpn e2 with ⟨b, q, f, h⟩ | ⟨q, h⟩
    · exact Or.inl ⟨nI 109, b, q, f, h⟩
    · exact Or.inr ⟨nI 109, q, h⟩
  by_cases h4 : l = 114
  · subst h4
    rcases e_orun hN hn hpp hpn e2 with ⟨b, q, f, h⟩ | ⟨q, h⟩
    · exact Or.inl ⟨nI 114, b, q, f, h⟩
    · exact Or.inr ⟨nI 114, q, h⟩
  refine Or.inr ⟨nI l, p, by omega, by omega, fun a k g => ?_, hl, fun us ue um g => ?_⟩
  · unfold p_X2_readOrder; rw [hc, k_c1_some, if_neg (show ¬ nI l = (43 : Int32) from fun h => h1 ((nI_eq (by omega) (by omega)).mp h)), if_neg (show ¬ nI l = (102 : Int32) from fun h => h2 ((nI_eq (by omega) (by omega)).mp h)), if_neg (show ¬ nI l = (109 : Int32) from fun h => h3 ((nI_eq (by omega) (by omega)).mp h)), if_neg (show ¬ nI l = (114 : Int32) from fun h => h4 ((nI_eq (by omega) (by omega)).mp h))]; rfl
  · unfold p_X7_isOrder; rw [if_neg (show ¬ nI l = (43 : Int32) from fun h => h1 ((nI_eq (by omega) (by omega)).mp h)), if_neg (show ¬ nI l = (102 : Int32) from fun h => h2 ((nI_eq (by omega) (by omega)).mp h)), if_neg (show ¬ nI l = (109 : Int32) from fun h => h3 ((nI_eq (by omega) (by omega)).mp h)), if_neg (show ¬ nI l = (114 : Int32) from fun h => h4 ((nI_eq (by omega) (by omega)).mp h))]; simp only [q_lit]; rw [pk_sub (by omega), k_let_eq, Nat.add_sub_cancel]; rfl
