-- leastGap, bestOffset
def sp_mn (Q : Nat → Int) : Nat → Int
  | 0 => Q 0
  | n + 1 => if Q n < sp_mn Q n then Q n else sp_mn Q n
theorem sp_mn_min (Q : Nat → Int) : ∀ T, is_min Q (T + 1) (sp_mn Q (T + 1))
  | 0 => by
    refine ⟨fun s hs => ?_, 0, by omega, ?_⟩
    · rw [show s = 0 by omega]; unfold sp_mn; split <;> exact Int.le_refl _
    · unfold sp_mn; split <;> rfl
  | T + 1 => is_min_next (sp_mn_min Q T)
def sp_G (Q : Nat → Int) (T σ : Nat) : Int32 := if sp_ff (sp_rough Q T σ) T 0 = none ∧ -29 ≤ sp_mn Q T then nI (1 - sp_mn Q T).toNat else -nI 6
theorem sp_rough_sh (Q : Nat → Int) (g : Int) (T σ s : Nat) : sp_rough (fun s => g + Q s) T σ s = sp_rough Q T σ s := by
  unfold sp_rough
  congr 1
  apply propext
  dsimp only
  omega
theorem sp_nobad {Q : Nat → Int} {T σ : Nat} {g : Int} (hT : 0 < T) : sp_ff (sp_bad (fun s => g + Q s) T σ) T 0 = none ↔ sp_ff (sp_rough Q T σ) T 0 = none ∧ 1 ≤ g + sp_mn Q T := by
  have hm : is_min Q T (sp_mn Q T) := by
    rw [show T = (T - 1) + 1 by omega]; exact sp_mn_min Q (T - 1)
  obtain ⟨h1, s0, hs0, e0⟩ := hm
  rw [sp_ff_none, sp_ff_none]
  constructor
  · intro h
    refine ⟨fun s hs hs2 => ?_, ?_⟩
    · have := h s hs hs2
      unfold sp_bad at this
      rw [Bool.or_eq_false_iff, sp_rough_sh] at this
      exact this.2
    · have := h s0 (by omega) (by omega)
      unfold sp_bad at this
      rw [Bool.or_eq_false_iff] at this
      have := of_decide_eq_false this.1
      dsimp only at this
      omega
  · rintro ⟨h2, h3⟩ s hs hs2
    unfold sp_bad
    rw [Bool.or_eq_false_iff, sp_rough_sh]
    refine ⟨decide_eq_false ?_, h2 s hs hs2⟩
    have := h1 s (by omega)
    dsimp only
    omega
theorem sp_mn_bd {c w : Nat → Int32} {u l a b : Nat} (h : PC c w u l a b) (o : Nat) : -18 ≤ sp_mn (sp_q w u l o a b) (Nat.lcm a b) ∧ sp_mn (sp_q w u l o a b) (Nat.lcm a b) ≤ 18 := by
  obtain ⟨-, ⟨a1, a2, -, -⟩, ⟨b1, b2, -, -⟩, -, -⟩ := id h
  obtain ⟨T0, T1⟩ := q_T a1 a2 b1 b2
  have hm := sp_mn_min (sp_q w u l o a b) (Nat.lcm a b - 1)
  rw [show Nat.lcm a b - 1 + 1 = Nat.lcm a b by omega] at hm
  obtain ⟨-, s, -, e⟩ := hm
  rw [e]
  exact sp_q_bd h o s
theorem s_gap {N u l o a b σ : Nat} {c w : Nat → Int32} (hN : 20000 ≤ N) (h : PC c w u l a b) (ho : o ≤ 23) (hσ : σ ≤ 30) (hc : c 6 = nI σ) (tl ta tt : Int32) (tp : Nat → Int32) :
    ∃ tl' tp', p_X6_gapToMesh N (nI u) (nI l) (nI o) c tl ta tt tp = some (sp_G (sp_q w u l o a b) (Nat.lcm a b) σ, tl', tp') := by
  obtain ⟨-, ⟨a1, a2, -, -⟩, ⟨b1, b2, -, -⟩, -, -⟩ := id h
  obtain ⟨T0, T1⟩ := q_T a1 a2 b1 b2
  obtain ⟨tp', et, hQ⟩ := s_layQ hN tl ta tt tp h ho (show 0 ≤ 30 by omega)
  have e0 : (fun s => ((0 : Nat) : Int) + sp_q w u l o a b s) = sp_q w u l o a b := by
    funext s; omega
  rw [e0] at hQ
  have es := s_sm (σ := σ) (ta := ta) (tt := tt) hN hQ hσ
  obtain ⟨v, ev, hv⟩ := s_lp (ta := ta) (tt := tt) hN hQ
  have hmn := sp_mn_min (sp_q w u l o a b) (Nat.lcm a b - 1)
  rw [show Nat.lcm a b - 1 + 1 = Nat.lcm a b by omega] at hmn
  have evm := is_min_uni hv hmn
  have bd := sp_mn_bd h o
  refine ⟨nI (Nat.lcm a b), tp', ?_⟩
  unfold p_X6_gapToMesh sp_G
  by_cases hr : sp_ff (sp_rough (sp_q w u l o a b) (Nat.lcm a b) σ) (Nat.lcm a b) 0 = none
  · rw [hr, if_pos rfl] at es
    simp (disch := omega) only [q_lit, nI_add, pk_mul, k_let_eq, k_c1_some, k_c2_some, k_c3_some, k_c4_some, k_c5_some, k_c6_some, k_c7_some, k_c8_some, k_c9_some, k_c10_some, k_c11_some, k_c12_some, k_c13_some, k_c14_some, k_c15_some, k_c16_some, k_c17_some, k_ld_nI, k_st_nI, k_nz_nI, k_bit0, k_bit1, pk_rem, pk_sub, q_nn, q_np, q_pn, q_lnp, q_lpn, q_enp, q_epn, nI_leI, nI_ltI, nI_eq, if_pos, if_neg, ↓reduceIte, et, s_setting, hc, es, ev]
    rw [hr]
    have e1 : (k_max (nI 0) (nI 1 - v)) = nI (1 - sp_mn (sp_q w u l o a b) (Nat.lcm a b)).toNat := by
      rw [← Int32.toInt_inj, q_max, q_sub (by rw [nI_toInt (by omega)]; omega) (by rw [nI_toInt (by omega)]; omega), nI_toInt (by omega), nI_toInt (by omega), nI_toInt (by omega), evm]
      split <;> omega
    rw [e1]
    by_cases hb : -29 ≤ sp_mn (sp_q w u l o a b) (Nat.lcm a b)
    · rw [if_neg (by rw [nI_ltI (by omega) (by omega)]; omega), if_pos ⟨rfl, hb⟩]
    · rw [if_pos (by rw [nI_ltI (by omega) (by omega)]; omega), if_neg (fun q => hb q.2)]
  · rw [if_neg hr] at es
    simp (disch := omega) only [q_lit, nI_add, pk_mul, k_let_eq, k_c1_some, k_c2_some, k_c3_some, k_c4_some, k_c5_some, k_c6_some, k_c7_some, k_c8_some, k_c9_some, k_c10_some, k_c11_some, k_c12_some, k_c13_some, k_c14_some, k_c15_some, k_c16_some, k_c17_some, k_ld_nI, k_st_nI, k_nz_nI, k_bit0, k_bit1, pk_rem, pk_sub, q_nn, q_np, q_pn, q_lnp, q_lpn, q_enp, q_epn, nI_leI, nI_ltI, nI_eq, if_pos, if_neg, ↓reduceIte, et, s_setting, hc, es]
    rw [if_neg (fun q => hr q.1)]
theorem s_least_loop {N u l o a b σ : Nat} {c w : Nat → Int32} (hN : 20000 ≤ N) (us up ue ut um : Int32) (h : PC c w u l a b) (ho : o ≤ 23) (hσ : σ ≤ 30) (hw : w 0 = nI σ) : ∀ n g : Nat, g ≤ 31 → 31 - g < n → (∀ g', g' < g → ¬ (sp_ff (sp_rough (sp_q w u l o a b) (Nat.lcm a b) σ) (Nat.lcm a b) 0 = none ∧ 1 ≤ (g' : Int) + sp_mn (sp_q w u l o a b) (Nat.lcm a b))) →
    f_X7_least_3 N n (nI u) (nI l) (nI o) (nI g) us up ue ut um w = some (sp_G (sp_q w u l o a b) (Nat.lcm a b) σ) := by
  obtain ⟨-, ⟨a1, a2, -, -⟩, ⟨b1, b2, -, -⟩, -, -⟩ := id h
  obtain ⟨T0, T1⟩ := q_T a1 a2 b1 b2
  have bd := sp_mn_bd h o
  intro n
  induction n with
  | zero => intro i h1 h2; omega
  | succ n ih =>
    intro g h1 h2 h3
    show b_X7_least_3 N (f_X7_least_3 N n) (nI u) (nI l) (nI o) (nI g) us up ue ut um w = _
    unfold b_X7_least_3
    simp only [q_lit]
    by_cases hg : g = 31
    · subst hg
      rw [if_pos (by rw [nI_ltI (by omega) (by omega)]; omega)]
      unfold sp_G
      rw [if_neg (fun q => h3 30 (by omega) ⟨q.1, by have := q.2; omega⟩)]
    · rw [if_neg (by rw [nI_ltI (by omega) (by omega)]; omega), s_ag hN us up ue ut um h ho (show g ≤ 30 by omega) hσ hw, k_c1_some]
      by_cases hb : sp_ff (sp_bad (fun s => (g : Int) + sp_q w u l o a b s) (Nat.lcm a b) σ) (Nat.lcm a b) 0 = none
      · rw [hb]
        have hb2 := (sp_nobad T0).mp hb
        rw [if_pos (show sp_ans2 _ none = -nI 6 from rfl)]
        unfold sp_G
        rw [if_pos ⟨hb2.1, by have := hb2.2; omega⟩]
        congr 2
        have h4 := hb2.2
        by_cases hg0 : g = 0
        · omega
        · have h5 : ¬ 1 ≤ ((g - 1 : Nat) : Int) + sp_mn (sp_q w u l o a b) (Nat.lcm a b) := fun q => h3 (g - 1) (by omega) ⟨hb2.1, q⟩
          omega
      · cases hf : sp_ff (sp_bad (fun s => (g : Int) + sp_q w u l o a b s) (Nat.lcm a b) σ) (Nat.lcm a b) 0 with
        | none => exact absurd hf hb
        | some s =>
          have hs := sp_ff_some _ _ _ hf
          rw [if_neg (show ¬ sp_ans2 _ (some s) = -nI 6 from fun q => by
            have q : nI (4 * s + if (g : Int) + sp_q w u l o a b s < 1 then 1 else 2) = -nI 6 := q
            rw [q_pn (by omega) (by split <;> omega)] at q
            omega), k_let_eq, nI_add]
          refine ih (g + 1) (by omega) (by omega) (fun g' hg' q => ?_)
          by_cases hgg : g' = g
          · subst hgg
            exact hb ((sp_nobad T0).mpr q)
          · exact h3 g' (by omega) q
theorem s_least {N u l o a b σ : Nat} {c w : Nat → Int32} (hN : 20000 ≤ N) (us up ue ut um : Int32) (h : PC c w u l a b) (ho : o ≤ 23) (hσ : σ ≤ 30) (hw : w 0 = nI σ) : p_X7_least N (nI u) (nI l) (nI o) us up ue ut um w = some (sp_G (sp_q w u l o a b) (Nat.lcm a b) σ) := by
  unfold p_X7_least
  exact s_least_loop hN us up ue ut um h ho hσ hw N 0 (by omega) (by omega) (fun g' hg' => by omega)
theorem e_leastGap {N : Nat} {c w : Nat → Int32} (hN : 20000 ≤ N) (hR : SR c w) (x1 x2 x3 tl ta tt : Int32) (tp : Nat → Int32) (us up ue ut um : Int32) :
    ∃ r tl' tp', p_X6_leastGap N x1 x2 x3 c tl ta tt tp = some (r, tl', tp') ∧ p_X7_leastGap N x1 x2 x3 us up ue ut um w = some r := by
  obtain ⟨⟨m, hm⟩, th, st, sl, pu, we, -, -, -, ⟨d1, d2, d3⟩, -, -⟩ := hR
  unfold p_X6_leastGap p_X7_leastGap
  rcases s_err (N := N) us up ue ut um hm x1 x2 x3 0 with ⟨e, e1, e2, h1, h2⟩ | ⟨u, l, o, g, hu, hl, hne, ho, hg, rfl, rfl, rfl, -, h1, h2⟩
  · refine ⟨-nI e, tl, tp, ?_, ?_⟩
    · rw [h1]; simp (disch := omega) only [q_lit, nI_add, pk_mul, k_let_eq, k_c1_some, k_c2_some, k_c3_some, k_c4_some, k_c5_some, k_c6_some, k_c7_some, k_c8_some, k_c9_some, k_c10_some, k_c11_some, k_c12_some, k_c13_some, k_c14_some, k_c15_some, k_c16_some, k_c17_some, k_ld_nI, k_st_nI, k_nz_nI, k_bit0, k_bit1, pk_rem, pk_sub, q_nn, q_np, q_pn, q_lnp, q_lpn, q_enp, q_epn, nI_leI, nI_ltI, nI_eq, if_pos, if_neg, ↓reduceIte]
    · rw [h2]; simp (disch := omega) only [q_lit, nI_add, pk_mul, k_let_eq, k_c1_some, k_c2_some, k_c3_some, k_c4_some, k_c5_some, k_c6_some, k_c7_some, k_c8_some, k_c9_some, k_c10_some, k_c11_some, k_c12_some, k_c13_some, k_c14_some, k_c15_some, k_c16_some, k_c17_some, k_ld_nI, k_st_nI, k_nz_nI, k_bit0, k_bit1, pk_rem, pk_sub, q_nn, q_np, q_pn, q_lnp, q_lpn, q_enp, q_epn, nI_leI, nI_ltI, nI_eq, if_pos, if_neg, ↓reduceIte]
  rw [h1, h2]
  obtain ⟨a, b, hP⟩ := PC_of hm hu hl
  obtain ⟨tl', tp', et⟩ := s_gap (σ := sl) hN hP ho d1 d2 tl ta tt tp
  refine ⟨sp_G (sp_q w u l o a b) (Nat.lcm a b) sl, tl', tp', ?_, ?_⟩
  · simp (disch := omega) only [q_lit, nI_add, pk_mul, k_let_eq, k_c1_some, k_c2_some, k_c3_some, k_c4_some, k_c5_some, k_c6_some, k_c7_some, k_c8_some, k_c9_some, k_c10_some, k_c11_some, k_c12_some, k_c13_some, k_c14_some, k_c15_some, k_c16_some, k_c17_some, k_ld_nI, k_st_nI, k_nz_nI, k_bit0, k_bit1, pk_rem, pk_sub, q_nn, q_np, q_pn, q_lnp, q_lpn, q_enp, q_epn, nI_leI, nI_ltI, nI_eq, if_pos, if_neg, ↓reduceIte, et]
  · simp (disch := omega) only [q_lit, nI_add, pk_mul, k_let_eq, k_c1_some, k_c2_some, k_c3_some, k_c4_some, k_c5_some, k_c6_some, k_c7_some, k_c8_some, k_c9_some, k_c10_some, k_c11_some, k_c12_some, k_c13_some, k_c14_some, k_c15_some, k_c16_some, k_c17_some, k_ld_nI, k_st_nI, k_nz_nI, k_bit0, k_bit1, pk_rem, pk_sub, q_nn, q_np, q_pn, q_lnp, q_lpn, q_enp, q_epn, nI_leI, nI_ltI, nI_eq, if_pos, if_neg, ↓reduceIte, s_least hN us up ue ut um hP ho d1 d3]
-- the best of several offsets
def sp_bst (G : Nat → Int32) : Nat → Int32 × Int32
  | 0 => (-nI 6, -nI 6)
  | n + 1 => if G n = -nI 6 then sp_bst G n else if (sp_bst G n).2 = -nI 6 then (nI n, G n) else if (sp_bst G n).2 ≤ G n then sp_bst G n else (nI n, G n)
theorem sp_bst_none (G : Nat → Int32) : ∀ n, n ≤ 24 → ((sp_bst G n).1 = -nI 6 ↔ (sp_bst G n).2 = -nI 6)
  | 0, _ => Iff.rfl
  | n + 1, h => by
    have ih := sp_bst_none G n (by omega)
    have e : ¬ (nI n = -nI 6) := by rw [q_pn (by omega) (by omega)]; omega
    unfold sp_bst
    by_cases h1 : G n = -nI 6
    · rw [if_pos h1]; exact ih
    · rw [if_neg h1]
      by_cases h2 : (sp_bst G n).2 = -nI 6
      · rw [if_pos h2]; exact ⟨fun q => absurd q e, fun q => absurd q h1⟩
      · rw [if_neg h2]
        by_cases h3 : (sp_bst G n).2 ≤ G n
        · rw [if_pos h3]; exact ih
        · rw [if_neg h3]; exact ⟨fun q => absurd q e, fun q => absurd q h1⟩
theorem sp_bst_le (G : Nat → Int32) : ∀ n i, i < n → ¬ G i = -nI 6 → ¬ (sp_bst G n).2 = -nI 6 ∧ (sp_bst G n).2 ≤ G i
  | 0, i, h, _ => by omega
  | n + 1, i, h, hi => by
    unfold sp_bst
    by_cases h1 : G n = -nI 6
    · rw [if_pos h1]
      exact sp_bst_le G n i (by rcases Nat.lt_or_ge i n with q | q; exact q; exact absurd (show i = n by omega) (fun q => hi (by rw [q]; exact h1))) hi
    · rw [if_neg h1]
      by_cases h2 : (sp_bst G n).2 = -nI 6
      · rw [if_pos h2]
        have : i = n := by
          rcases Nat.lt_or_ge i n with q | q
          · exact absurd h2 (sp_bst_le G n i q hi).1
          · omega
        rw [this]
        exact ⟨h1, Int32.le_refl _⟩
      · rw [if_neg h2]
        by_cases h3 : (sp_bst G n).2 ≤ G n
        · rw [if_pos h3]
          refine ⟨h2, ?_⟩
          rcases Nat.lt_or_ge i n with q | q
          · exact (sp_bst_le G n i q hi).2
          · rw [show i = n by omega]; exact h3
        · rw [if_neg h3]
          refine ⟨h1, ?_⟩
          rcases Nat.lt_or_ge i n with q | q
          · have := (sp_bst_le G n i q hi).2
            rw [Int32.le_iff_toInt_le] at this h3 ⊢
            dsimp only
            omega
          · rw [show i = n by omega]; exact Int32.le_refl _
theorem sp_bst_per {G : Nat → Int32} {b : Nat} (hb : 0 < b) (hG : ∀ o, G o = G (o % b)) : ∀ k, sp_bst G (b + k) = sp_bst G b
  | 0 => rfl
  | k + 1 => by
    have ih := sp_bst_per hb hG k
    show sp_bst G (b + k + 1) = _
    rw [sp_bst, ih]
    by_cases h1 : G (b + k) = -nI 6
    · rw [if_pos h1]
    · rw [if_neg h1]
      have h2 := sp_bst_le G b ((b + k) % b) (Nat.mod_lt _ hb) (by rw [← hG]; exact h1)
      rw [if_neg h2.1, if_pos (by rw [hG]; exact h2.2)]
theorem sp_G_val {Q : Nat → Int} {T σ : Nat} (h1 : -18 ≤ sp_mn Q T) (h2 : sp_mn Q T ≤ 18) : sp_G Q T σ = -nI 6 ∨ ∃ g, g ≤ 30 ∧ sp_G Q T σ = nI g := by
  unfold sp_G
  split
  · exact Or.inr ⟨_, by omega, rfl⟩
  · exact Or.inl rfl
theorem sp_q_per (w : Nat → Int32) (u l a b o : Nat) : sp_q w u l o a b = sp_q w u l (o % b) a b := by
  funext s
  unfold sp_q
  rw [Nat.add_mod_mod]
