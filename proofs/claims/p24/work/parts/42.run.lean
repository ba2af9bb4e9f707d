-- run, thickest
def sp_run (Q : Nat → Int) (th st pl steps : Nat) : Nat → Nat → Nat → Nat × Nat
  | 0, s, t => (s, t)
  | n + 1, s, t => sp_run Q th st pl steps n (sp_tear Q th st pl steps s none).1 (t + if (sp_tear Q th st pl steps s none).2 then 1 else 0)
theorem sp_run_bd (Q : Nat → Int) (th st pl steps : Nat) (h : steps ≤ 99) : ∀ n s t : Nat, (sp_run Q th st pl steps n s t).1 ≤ s + n * 99 ∧ (sp_run Q th st pl steps n s t).2 ≤ t + n
  | 0, s, t => by unfold sp_run; dsimp only; omega
  | n + 1, s, t => by
    unfold sp_run
    have h1 := sp_tear_bd Q th st pl steps s none
    have h2 := sp_run_bd Q th st pl steps h n (sp_tear Q th st pl steps s none).1 (t + if (sp_tear Q th st pl steps s none).2 then 1 else 0)
    have h3 : (if (sp_tear Q th st pl steps s none).2 then 1 else 0) ≤ 1 := by split <;> omega
    omega
theorem s_rc_loop {N u l T th st pl steps cards : Nat} {c : Nat → Int32} {tp : Nat → Int32} {Q : Nat → Int} (hN : 20000 ≤ N) (hQ : PQ tp Q T) (hB : QB Q T) (hth : th ≤ 30) (hst : st ≤ 30) (hpl : pl ≤ 30) (hsteps : steps ≤ 99) (hcards : cards ≤ 99) (c1 : c 1 = nI th) (c2 : c 2 = nI st) (c7 : c 7 = nI pl) : ∀ n k s t : Nat, k ≤ cards → cards - k < n → s + (cards - k) * 99 ≤ 10000 → t ≤ k →
    f_X6_runCards_94 N n (nI u) (nI l) (nI cards) (nI steps) (nI t) (nI k) c (nI T) (nI (s % T)) (nI s) tp =
    k_c1 (p_X3_countRun N (nI cards) (nI (sp_run Q th st pl steps (cards - k) s t).2) (nI (sp_run Q th st pl steps (cards - k) s t).1) c) (fun c1 => k_c1 (p_X3_turnRoller N (nI u) (nI (sp_run Q th st pl steps (cards - k) s t).1) c1) (fun c2 => k_c1 (p_X3_turnRoller N (nI l) (nI (sp_run Q th st pl steps (cards - k) s t).1) c2) (fun c3 => some (nI (sp_run Q th st pl steps (cards - k) s t).2, c3, nI T, nI ((sp_run Q th st pl steps (cards - k) s t).1 % T), nI (sp_run Q th st pl steps (cards - k) s t).1, tp)))) := by
  intro n
  induction n with
  | zero => intro k s t h1 h2; omega
  | succ n ih =>
    intro k s t h1 h2 h3 h4
    show b_X6_runCards_94 N (f_X6_runCards_94 N n) (nI u) (nI l) (nI cards) (nI steps) (nI t) (nI k) c (nI T) (nI (s % T)) (nI s) tp = _
    unfold b_X6_runCards_94
    by_cases hk : k = cards
    · rw [if_pos (by rw [nI_leI (by omega) (by omega)]; omega), hk, Nat.sub_self]
      simp only [p_X5_taken, k_c1_some, sp_run]
    · rw [if_neg (by rw [nI_leI (by omega) (by omega)]; omega)]
      simp only [q_lit]
      rw [s_cell (by omega), k_c1_some, s_cell (by omega), k_c1_some, s_setting (by omega), k_c1_some, c1, c2, c7, s_tears hN hQ hB hth hst hpl (by omega) (by omega), k_c3_some, show cards - k = (cards - (k + 1)) + 1 by omega]
      have hb := sp_tear_bd Q th st pl steps s none
      simp only [sp_run, k_let_eq, nI_add]
      by_cases ht : (sp_tear Q th st pl steps s none).2 = true
      · rw [if_neg (by rw [if_pos ht]; decide), if_pos ht]
        exact ih (k + 1) _ (t + 1) (by omega) (by omega) (by omega) (by omega)
      · rw [if_pos (by rw [if_neg ht]), if_neg ht, Nat.add_zero]
        exact ih (k + 1) _ t (by omega) (by omega) (by omega) (by omega)
theorem s_in_exit {N : Nat} {x1 x2 x3 x4 x5 x6 x9 us up ue ut um : Int32} {w : Nat → Int32} (n s t : Nat) (hs : s < 100000) (k9 : Int32 → Int32 → Int32 → Int32 → Int32 → Int32 → Int32 → Int32 → Int32 → Int32 → Int32 → Int32 → Int32 → Int32 → (Nat → Int32) → Option (Int32 × Int32 × (Nat → Int32))) :
    f_X7_runs_29 N k9 (n + 1) x1 x2 x3 x4 x5 x6 (nI s) (nI t) x9 (nI s) us up ue ut um w = k9 x1 x2 x3 x4 x5 x6 (nI s) (nI t) (x9 + nI 1) us up ue ut um w := by
  show b_X7_runs_29 N k9 (f_X7_runs_29 N k9 n) x1 x2 x3 x4 x5 x6 (nI s) (nI t) x9 (nI s) us up ue ut um w = _
  unfold b_X7_runs_29
  rw [if_pos (Int32.le_refl _)]
  simp only [q_lit, k_let_eq]
theorem s_in_loop {N u l o g a b th st pl : Nat} {c w : Nat → Int32} (us up ut um : Int32) (h : PC c w u l a b) (ho : o ≤ 23) (hg : g ≤ 30) (hth : th ≤ 30) (hst : st ≤ 30) (hpl : pl ≤ 30) (w4 : w 4 = nI th) (w5 : w 5 = nI st) (w1 : w 1 = nI pl) (x5 x6 x9 : Int32) (k9 : Int32 → Int32 → Int32 → Int32 → Int32 → Int32 → Int32 → Int32 → Int32 → Int32 → Int32 → Int32 → Int32 → Int32 → (Nat → Int32) → Option (Int32 × Int32 × (Nat → Int32))) :
    ∀ (n s e t : Nat) (pr : Option Int) (ue : Int32), s ≤ e → e ≤ 20000 → t ≤ 100 → e - s < n → sp_ue ue pr → ∃ ue', f_X7_runs_29 N k9 n (nI u) (nI l) (nI o) (nI g) x5 x6 (nI s) (nI t) x9 (nI e) us up ue ut um w = k9 (nI u) (nI l) (nI o) (nI g) x5 x6 (nI (sp_tear (fun s => (g : Int) + sp_q w u l o a b s) th st pl (e - s) s pr).1) (nI (t + if (sp_tear (fun s => (g : Int) + sp_q w u l o a b s) th st pl (e - s) s pr).2 then 1 else 0)) (x9 + nI 1) us up ue' ut um w := by
  intro n
  induction n with
  | zero => intro s e t pr ue h1 h2 h3 h4; omega
  | succ n ih =>
    intro s e t pr ue h1 h2 h3 h4 hue
    by_cases hse : s = e
    · subst hse
      rw [s_in_exit n s t (by omega) k9, Nat.sub_self]
      exact ⟨ue, rfl⟩
    · show ∃ ue', b_X7_runs_29 N k9 (f_X7_runs_29 N k9 n) (nI u) (nI l) (nI o) (nI g) x5 x6 (nI s) (nI t) x9 (nI e) us up ue ut um w = _
      unfold b_X7_runs_29
      rw [if_neg (by rw [nI_leI (by omega) (by omega)]; omega)]
      simp only [q_lit]
      have hB := QB_q h o g hg
      have hb := hB.2.2.1 s
      dsimp only at hb
      have hb0 := sp_q_bd h o s
      obtain ⟨v, ev, hv⟩ := s_rpress (N := N) us up ue ut um h ho (show s ≤ 100000 by omega)
      have ey : (v + nI g).toInt = (fun s => (g : Int) + sp_q w u l o a b s) s := by
        rw [q_add (by rw [hv, nI_toInt (by omega)]; omega) (by rw [hv, nI_toInt (by omega)]; omega), hv, nI_toInt (by omega)]; dsimp only; omega
      obtain ⟨ue1, et, hue1⟩ := s_rtears (N := N) us up ue ut um hB hth hst hpl w5 w1 ey pr hue
      rw [k_ld_nI (by omega) (by omega), w4, ev, k_c1_some, et, k_c2_some, show e - s = (e - (s + 1)) + 1 by omega]
      simp only [k_let_eq, nI_add]
      by_cases hc : (decide ((st : Int) < sp_by (fun s => (g : Int) + sp_q w u l o a b s) th s) || sp_pull pl (sp_by (fun s => (g : Int) + sp_q w u l o a b s) th s) pr) = true
      · rw [if_pos hc]
        rw [if_neg (show ¬ nI 1 = nI 0 by decide), if_neg (show ¬ nI 1 = nI 0 by decide), sp_tear_t hc]
        obtain ⟨n', rfl⟩ : ∃ n', n = n' + 1 := ⟨n - 1, by omega⟩
        rw [s_in_exit n' (s + 1) (t + 1) (by omega) k9]
        exact ⟨ue1, rfl⟩
      · rw [if_neg hc]
        rw [if_pos rfl, if_pos rfl, sp_tear_f hc, Nat.add_zero]
        exact ih (s + 1) e t _ ue1 (by omega) h2 h3 (by omega) hue1
theorem s_rr_loop {N u l o g a b th st pl steps cards : Nat} {c w : Nat → Int32} (hN : 20000 ≤ N) (us up ut um : Int32) (h : PC c w u l a b) (ho : o ≤ 23) (hg : g ≤ 30) (hth : th ≤ 30) (hst : st ≤ 30) (hpl : pl ≤ 30) (hsteps : steps ≤ 99) (hcards : cards ≤ 99) (w4 : w 4 = nI th) (w5 : w 5 = nI st) (w1 : w 1 = nI pl) :
    ∀ (n k s t : Nat) (ue : Int32), k ≤ cards → cards - k < n → s + (cards - k) * 99 ≤ 10000 → t ≤ k → ∃ ue', f_X7_runs_9 N n (nI u) (nI l) (nI o) (nI g) (nI cards) (nI steps) (nI s) (nI t) (nI k) us up ue ut um w =
    k_c1 (p_X7_counts N (nI u) (nI (sp_run (fun s => (g : Int) + sp_q w u l o a b s) th st pl steps (cards - k) s t).1) us up ue' ut um (upd (upd (upd w 6 (w 6 + nI cards)) 7 (w 7 + nI (sp_run (fun s => (g : Int) + sp_q w u l o a b s) th st pl steps (cards - k) s t).2)) 8 (w 8 + nI (sp_run (fun s => (g : Int) + sp_q w u l o a b s) th st pl steps (cards - k) s t).1))) (fun w2 => k_c1 (p_X7_counts N (nI l) (nI (sp_run (fun s => (g : Int) + sp_q w u l o a b s) th st pl steps (cards - k) s t).1) us up ue' ut um w2) (fun w3 => some (nI (sp_run (fun s => (g : Int) + sp_q w u l o a b s) th st pl steps (cards - k) s t).2, ue', w3))) := by
  intro n
  induction n with
  | zero => intro k s t ue h1 h2; omega
  | succ n ih =>
    intro k s t ue h1 h2 h3 h4
    show ∃ ue', b_X7_runs_9 N (f_X7_runs_9 N n) (nI u) (nI l) (nI o) (nI g) (nI cards) (nI steps) (nI s) (nI t) (nI k) us up ue ut um w = _
    unfold b_X7_runs_9
    simp only [q_lit, k_let_eq, nI_add]
    by_cases hk : k = cards
    · rw [if_pos (by rw [nI_leI (by omega) (by omega)]; omega), hk, Nat.sub_self]
      rw [k_ld_nI (by omega) (by omega), k_st_nI (by omega) (by omega), k_ld_nI (by omega) (by omega), k_st_nI (by omega) (by omega), k_ld_nI (by omega) (by omega), k_st_nI (by omega) (by omega), q_un (show 7 ≠ 6 by omega), q_un (show 8 ≠ 7 by omega), q_un (show 8 ≠ 6 by omega)]
      exact ⟨ue, rfl⟩
    · rw [if_neg (by rw [nI_leI (by omega) (by omega)]; omega)]
      obtain ⟨ue1, e1⟩ := s_in_loop (N := N) us up ut um h ho hg hth hst hpl w4 w5 w1 (nI cards) (nI steps) (nI k) (f_X7_runs_9 N n) N s (s + steps) t none (-nI 6) (by omega) (by omega) (by omega) (by omega) rfl
      rw [e1, show s + steps - s = steps by omega, nI_add, show cards - k = (cards - (k + 1)) + 1 by omega]
      have hb := sp_tear_bd (fun s => (g : Int) + sp_q w u l o a b s) th st pl steps s none
      have h5 : (if (sp_tear (fun s => (g : Int) + sp_q w u l o a b s) th st pl steps s none).2 then 1 else 0) ≤ 1 := by split <;> omega
      exact ih (k + 1) _ _ ue1 (by omega) (by omega) (by omega) (by omega)
theorem o_run {N : Nat} {c w : Nat → Int32} (hN : 20000 ≤ N) (us up ue ut um : Int32) (hR : SR c w) (x1 x2 x3 x4 x5 x6 tl ta tt : Int32) (tp : Nat → Int32) :
    (∃ e : Nat, ∃ tl' ta' tt' tp', 1 ≤ e ∧ e ≤ 5 ∧ p_X6_runCards N x1 x2 x3 x4 x5 x6 c tl ta tt tp = some (-nI e, c, tl', ta', tt', tp') ∧ p_X7_runError N x1 x2 x3 x4 x5 x6 us up ue ut um w = some (-nI e)) ∨
    (∃ v : Nat, ∃ c' w' tl' ta' tt' tp', v ≤ 99 ∧ p_X6_runCards N x1 x2 x3 x4 x5 x6 c tl ta tt tp = some (nI v, c', tl', ta', tt', tp') ∧ p_X7_runError N x1 x2 x3 x4 x5 x6 us up ue ut um w = some (nI 0) ∧ (∀ us' : Int32, ∃ ue', p_X7_runs N x1 x2 x3 x4 x5 x6 us' up ue ut um w = some (nI v, ue', w')) ∧ SR c' w' ∧ c' 0 = c 0) := by
  obtain ⟨⟨m, hm⟩, th, st, sl, pu, we, ⟨t1, t2, t3, t4⟩, ⟨u1, u2, u3⟩, ⟨v1, v2, v3⟩, ⟨d1, d2, d3⟩, ⟨p1, p2, p3⟩, hwe⟩ := id hR
  unfold p_X6_runCards p_X7_runError
  rcases s_err (N := N) us up ue ut um hm x1 x2 x3 x4 with ⟨e, e1, e2, h1, h2⟩ | ⟨u, l, o, g, hu, hl, hne, ho, hg, rfl, rfl, rfl, rfl, h1, h2⟩
  · left
    refine ⟨e, tl, ta, tt, tp, by omega, by omega, ?_, ?_⟩
    · rw [h1]; simp (disch := omega) only [q_lit, nI_add, pk_mul, k_let_eq, k_c1_some, k_c2_some, k_c3_some, k_c4_some, k_c5_some, k_c6_some, k_c7_some, k_c8_some, k_c9_some, k_c10_some, k_c11_some, k_c12_some, k_c13_some, k_c14_some, k_c15_some, k_c16_some, k_c17_some, k_ld_nI, k_st_nI, k_nz_nI, k_bit0, k_bit1, pk_rem, pk_sub, q_nn, q_np, q_pn, q_lnp, q_lpn, q_enp, q_epn, nI_leI, nI_ltI, nI_eq, if_pos, if_neg, ↓reduceIte]
    · rw [h2]; simp (disch := omega) only [q_lit, nI_add, pk_mul, k_let_eq, k_c1_some, k_c2_some, k_c3_some, k_c4_some, k_c5_some, k_c6_some, k_c7_some, k_c8_some, k_c9_some, k_c10_some, k_c11_some, k_c12_some, k_c13_some, k_c14_some, k_c15_some, k_c16_some, k_c17_some, k_ld_nI, k_st_nI, k_nz_nI, k_bit0, k_bit1, pk_rem, pk_sub, q_nn, q_np, q_pn, q_lnp, q_lpn, q_enp, q_epn, nI_leI, nI_ltI, nI_eq, if_pos, if_neg, ↓reduceIte]
  rw [h1, h2]
  rcases q_dec x5 1 99 with h5 | h5
  rotate_left
  · left
    refine ⟨2, tl, ta, tt, tp, by omega, by omega, ?_, ?_⟩
    · rw [s_outside_f (show ¬ q_in x5 (1 : Int32).toInt (99 : Int32).toInt from h5)]; simp (disch := omega) only [q_lit, nI_add, pk_mul, k_let_eq, k_c1_some, k_c2_some, k_c3_some, k_c4_some, k_c5_some, k_c6_some, k_c7_some, k_c8_some, k_c9_some, k_c10_some, k_c11_some, k_c12_some, k_c13_some, k_c14_some, k_c15_some, k_c16_some, k_c17_some, k_ld_nI, k_st_nI, k_nz_nI, k_bit0, k_bit1, pk_rem, pk_sub, q_nn, q_np, q_pn, q_lnp, q_lpn, q_enp, q_epn, nI_leI, nI_ltI, nI_eq, if_pos, if_neg, ↓reduceIte]
    · rw [s_in_f (show ¬ q_in x5 (1 : Int32).toInt (99 : Int32).toInt from h5)]; simp (disch := omega) only [q_lit, nI_add, pk_mul, k_let_eq, k_c1_some, k_c2_some, k_c3_some, k_c4_some, k_c5_some, k_c6_some, k_c7_some, k_c8_some, k_c9_some, k_c10_some, k_c11_some, k_c12_some, k_c13_some, k_c14_some, k_c15_some, k_c16_some, k_c17_some, k_ld_nI, k_st_nI, k_nz_nI, k_bit0, k_bit1, pk_rem, pk_sub, q_nn, q_np, q_pn, q_lnp, q_lpn, q_enp, q_epn, nI_leI, nI_ltI, nI_eq, if_pos, if_neg, ↓reduceIte]
  rw [s_outside_t (show q_in x5 (1 : Int32).toInt (99 : Int32).toInt from h5), s_in_t (show q_in x5 (1 : Int32).toInt (99 : Int32).toInt from h5)]
  rcases q_dec x6 1 99 with h6 | h6
  rotate_left
  · left
    refine ⟨2, tl, ta, tt, tp, by omega, by omega, ?_, ?_⟩
    · rw [s_outside_f (show ¬ q_in x6 (1 : Int32).toInt (99 : Int32).toInt from h6)]; simp (disch := omega) only [q_lit, nI_add, pk_mul, k_let_eq, k_c1_some, k_c2_some, k_c3_some, k_c4_some, k_c5_some, k_c6_some, k_c7_some, k_c8_some, k_c9_some, k_c10_some, k_c11_some, k_c12_some, k_c13_some, k_c14_some, k_c15_some, k_c16_some, k_c17_some, k_ld_nI, k_st_nI, k_nz_nI, k_bit0, k_bit1, pk_rem, pk_sub, q_nn, q_np, q_pn, q_lnp, q_lpn, q_enp, q_epn, nI_leI, nI_ltI, nI_eq, if_pos, if_neg, ↓reduceIte]
    · rw [s_in_f (show ¬ q_in x6 (1 : Int32).toInt (99 : Int32).toInt from h6)]; simp (disch := omega) only [q_lit, nI_add, pk_mul, k_let_eq, k_c1_some, k_c2_some, k_c3_some, k_c4_some, k_c5_some, k_c6_some, k_c7_some, k_c8_some, k_c9_some, k_c10_some, k_c11_some, k_c12_some, k_c13_some, k_c14_some, k_c15_some, k_c16_some, k_c17_some, k_ld_nI, k_st_nI, k_nz_nI, k_bit0, k_bit1, pk_rem, pk_sub, q_nn, q_np, q_pn, q_lnp, q_lpn, q_enp, q_epn, nI_leI, nI_ltI, nI_eq, if_pos, if_neg, ↓reduceIte]
  rw [s_outside_t (show q_in x6 (1 : Int32).toInt (99 : Int32).toInt from h6), s_in_t (show q_in x6 (1 : Int32).toInt (99 : Int32).toInt from h6)]
  obtain ⟨cards, k1, k2, rfl⟩ := q_in_nat (a := 1) (b := 99) (by omega) h5
  obtain ⟨steps, k3, k4, rfl⟩ := q_in_nat (a := 1) (b := 99) (by omega) h6
  obtain ⟨a, b, hP⟩ := PC_of hm hu hl
  obtain ⟨⟨hu8, hl8⟩, ⟨a1, a2, a3, a4⟩, ⟨b1, b2, b3, b4⟩, -, -⟩ := id hP
  obtain ⟨T0, T1⟩ := q_T a1 a2 b1 b2
  obtain ⟨tp', et, hQ⟩ := s_layQ hN tl ta tt tp hP ho hg
  have em := s_meshes (σ := sl) (ta := ta) (tt := tt) hN hQ d1
  have ea := s_ag (σ := sl) hN us up ue ut um hP ho hg d1 d3
  cases hf : sp_ff (sp_bad (fun s => (g : Int) + sp_q w u l o a b s) (Nat.lcm a b) sl) (Nat.lcm a b) 0 with
  | some s =>
    left
    have hs := sp_ff_some _ _ _ hf
    rw [hf, if_neg (fun q => by cases q)] at em
    rw [hf] at ea
    refine ⟨5, nI (Nat.lcm a b), ta, tt, tp', by omega, by omega, ?_, ?_⟩
    · simp (disch := omega) only [q_lit, nI_add, pk_mul, k_let_eq, k_c1_some, k_c2_some, k_c3_some, k_c4_some, k_c5_some, k_c6_some, k_c7_some, k_c8_some, k_c9_some, k_c10_some, k_c11_some, k_c12_some, k_c13_some, k_c14_some, k_c15_some, k_c16_some, k_c17_some, k_ld_nI, k_st_nI, k_nz_nI, k_bit0, k_bit1, pk_rem, pk_sub, q_nn, q_np, q_pn, q_lnp, q_lpn, q_enp, q_epn, nI_leI, nI_ltI, nI_eq, if_pos, if_neg, ↓reduceIte, et, s_setting, d2, em]
    · simp (disch := omega) only [q_lit, nI_add, pk_mul, k_let_eq, k_c1_some, k_c2_some, k_c3_some, k_c4_some, k_c5_some, k_c6_some, k_c7_some, k_c8_some, k_c9_some, k_c10_some, k_c11_some, k_c12_some, k_c13_some, k_c14_some, k_c15_some, k_c16_some, k_c17_some, k_ld_nI, k_st_nI, k_nz_nI, k_bit0, k_bit1, pk_rem, pk_sub, q_nn, q_np, q_pn, q_lnp, q_lpn, q_enp, q_epn, nI_leI, nI_ltI, nI_eq, if_pos, if_neg, ↓reduceIte, ea, sp_ans2]
      split <;> simp (disch := omega) only [q_lit, nI_add, pk_mul, k_let_eq, k_c1_some, k_c2_some, k_c3_some, k_c4_some, k_c5_some, k_c6_some, k_c7_some, k_c8_some, k_c9_some, k_c10_some, k_c11_some, k_c12_some, k_c13_some, k_c14_some, k_c15_some, k_c16_some, k_c17_some, k_ld_nI, k_st_nI, k_nz_nI, k_bit0, k_bit1, pk_rem, pk_sub, q_nn, q_np, q_pn, q_lnp, q_lpn, q_enp, q_epn, nI_leI, nI_ltI, nI_eq, if_pos, if_neg, ↓reduceIte]
  | none =>
    right
    rw [hf, if_pos rfl] at em
    rw [hf] at ea
    have hB := QB_q hP o g hg
    have el := s_rc_loop (N := N) (u := u) (l := l) (c := c) (steps := steps) (cards := cards) hN hQ hB t2 u1 p1 k4 k2 t3 u2 p2 N 0 0 0 (by omega) (by omega) (by omega) (by omega)
    have hbd := sp_run_bd (fun s => (g : Int) + sp_q w u l o a b s) th st pu steps k4 cards 0 0
    rw [Nat.sub_zero, Nat.zero_mod] at el
    have hc0 : SR (upd (upd (upd c 3 (c 3 + nI cards)) 4 (c 4 + nI (sp_run (fun s => (g : Int) + sp_q w u l o a b s) th st pu steps cards 0 0).2)) 5 (c 5 + nI (sp_run (fun s => (g : Int) + sp_q w u l o a b s) th st pu steps cards 0 0).1)) (upd (upd (upd w 6 (w 6 + nI cards)) 7 (w 7 + nI (sp_run (fun s => (g : Int) + sp_q w u l o a b s) th st pu steps cards 0 0).2)) 8 (w 8 + nI (sp_run (fun s => (g : Int) + sp_q w u l o a b s) th st pu steps cards 0 0).1)) := by
      refine ⟨⟨m, SRm_keep hm (by simp (disch := omega) only [q_un]) (by simp (disch := omega) only [q_un]) (fun i hi => by rw [q_un (by omega), q_un (by omega), q_un (by omega)]) (fun i hi => by rw [q_un (by omega), q_un (by omega), q_un (by omega)])⟩, th, st, sl, pu, we, ?_⟩
      unfold SRs
      simp (disch := omega) only [q_un, q_us, v1, v2, v3]
      exact ⟨⟨t1, t2, t3, t4⟩, ⟨u1, u2, u3⟩, ⟨trivial, trivial, trivial⟩, ⟨d1, d2, d3⟩, ⟨p1, p2, p3⟩, hwe⟩
    have hcm : (upd (upd (upd c 3 (c 3 + nI cards)) 4 (c 4 + nI (sp_run (fun s => (g : Int) + sp_q w u l o a b s) th st pu steps cards 0 0).2)) 5 (c 5 + nI (sp_run (fun s => (g : Int) + sp_q w u l o a b s) th st pu steps cards 0 0).1)) 0 = nI m := by
      rw [q_un (by omega), q_un (by omega), q_un (by omega)]; exact hm.2.1
    have ecr : p_X3_countRun N (nI cards) (nI (sp_run (fun s => (g : Int) + sp_q w u l o a b s) th st pu steps cards 0 0).2) (nI (sp_run (fun s => (g : Int) + sp_q w u l o a b s) th st pu steps cards 0 0).1) c = some (upd (upd (upd c 3 (c 3 + nI cards)) 4 (c 4 + nI (sp_run (fun s => (g : Int) + sp_q w u l o a b s) th st pu steps cards 0 0).2)) 5 (c 5 + nI (sp_run (fun s => (g : Int) + sp_q w u l o a b s) th st pu steps cards 0 0).1)) := by
      unfold p_X3_countRun
      simp only [q_lit]
      rw [s_raise (by omega), k_c1_some, s_raise (by omega), k_c1_some, s_raise (by omega), k_c1_some, q_un (show 4 ≠ 3 by omega), q_un (show 5 ≠ 4 by omega), q_un (show 5 ≠ 3 by omega)]
    rw [ecr, k_c1_some] at el
    obtain ⟨ca, wa, h1a, h2a, h3a, h4a⟩ := o_turnZ (v := nI (sp_run (fun s => (g : Int) + sp_q w u l o a b s) th st pu steps cards 0 0).1) hN hc0 hcm hm.1 hu
    obtain ⟨cb, wb, h1b, h2b, h3b, h4b⟩ := o_turnZ (v := nI (sp_run (fun s => (g : Int) + sp_q w u l o a b s) th st pu steps cards 0 0).1) hN h3a h4a hm.1 hl
    rw [h1a, k_c1_some, h1b, k_c1_some] at el
    refine ⟨(sp_run (fun s => (g : Int) + sp_q w u l o a b s) th st pu steps cards 0 0).2, cb, wb, nI (Nat.lcm a b), nI ((sp_run (fun s => (g : Int) + sp_q w u l o a b s) th st pu steps cards 0 0).1 % Nat.lcm a b), nI (sp_run (fun s => (g : Int) + sp_q w u l o a b s) th st pu steps cards 0 0).1, tp', by omega, ?_, ?_, fun us' => ?_, ⟨h3b, h4b.trans hm.2.1.symm⟩⟩
    · simp (disch := omega) only [q_lit, nI_add, pk_mul, k_let_eq, k_c1_some, k_c2_some, k_c3_some, k_c4_some, k_c5_some, k_c6_some, k_c7_some, k_c8_some, k_c9_some, k_c10_some, k_c11_some, k_c12_some, k_c13_some, k_c14_some, k_c15_some, k_c16_some, k_c17_some, k_ld_nI, k_st_nI, k_nz_nI, k_bit0, k_bit1, pk_rem, pk_sub, q_nn, q_np, q_pn, q_lnp, q_lpn, q_enp, q_epn, nI_leI, nI_ltI, nI_eq, if_pos, if_neg, ↓reduceIte, et, s_setting, d2, em, p_X5_begin]
      exact el
    · simp (disch := omega) only [q_lit, nI_add, pk_mul, k_let_eq, k_c1_some, k_c2_some, k_c3_some, k_c4_some, k_c5_some, k_c6_some, k_c7_some, k_c8_some, k_c9_some, k_c10_some, k_c11_some, k_c12_some, k_c13_some, k_c14_some, k_c15_some, k_c16_some, k_c17_some, k_ld_nI, k_st_nI, k_nz_nI, k_bit0, k_bit1, pk_rem, pk_sub, q_nn, q_np, q_pn, q_lnp, q_lpn, q_enp, q_epn, nI_leI, nI_ltI, nI_eq, if_pos, if_neg, ↓reduceIte, ea, sp_ans2]
    · obtain ⟨ue', er⟩ := s_rr_loop (N := N) (steps := steps) (cards := cards) hN us' up ut um hP ho hg t2 u1 p1 k4 k2 t4 u3 p3 N 0 0 0 ue (by omega) (by omega) (by omega) (by omega)
      rw [Nat.sub_zero, h2a, k_c1_some, h2b, k_c1_some] at er
      refine ⟨ue', ?_⟩
      unfold p_X7_runs
      simp only [q_lit]
      exact er
-- thickest
def sp_th (Q : Nat → Int) (st pl T : Nat) : Nat → Nat
  | 0 => 0
  | n + 1 => if (sp_tear Q (n + 1) st pl T 0 none).2 = true then sp_th Q st pl T n else n + 1
theorem sp_th_bd (Q : Nat → Int) (st pl T : Nat) : ∀ n, sp_th Q st pl T n ≤ n
  | 0 => Nat.le_refl _
  | n + 1 => by
    unfold sp_th
    have := sp_th_bd Q st pl T n
    split <;> omega
theorem s_th_loop {N T st pl : Nat} {c : Nat → Int32} {tp : Nat → Int32} {Q : Nat → Int} (hN : 20000 ≤ N) (hQ : PQ tp Q T) (hB : QB Q T) (hst : st ≤ 30) (hpl : pl ≤ 30) (c2 : c 2 = nI st) (c7 : c 7 = nI pl) : ∀ (n th : Nat) (ta tt : Int32), th ≤ 30 → th < n →
    ∃ ta' tt', f_X6_thickest_60 N n (nI th) c (nI T) ta tt tp = some (if sp_th Q st pl T th = 0 then -nI 6 else nI (sp_th Q st pl T th), nI T, ta', tt', tp) := by
  intro n
  induction n with
  | zero => intro th ta tt h1 h2; omega
  | succ n ih =>
    intro th ta tt h1 h2
    show ∃ ta' tt', b_X6_thickest_60 N (f_X6_thickest_60 N n) (nI th) c (nI T) ta tt tp = _
    unfold b_X6_thickest_60
    by_cases h0 : th = 0
    · subst h0
      simp only [q_lit]
      rw [if_pos (by decide)]
      exact ⟨ta, tt, rfl⟩
    · obtain ⟨k, rfl⟩ : ∃ k, th = k + 1 := ⟨th - 1, by omega⟩
      rw [if_neg (by simp only [q_lit]; rw [nI_ltI (by omega) (by omega)]; omega)]
      simp only [p_X5_begin, k_c2_some, p_X5_length, k_c1_some, pk_m1]
      simp only [q_lit]
      have et := s_tears (N := N) (s := 0) (steps := T) hN hQ hB (show k + 1 ≤ 30 by omega) hst hpl (by have := hQ.2.1; omega) (by have := hQ.2.1; omega)
      rw [Nat.zero_mod] at et
      rw [s_cell (by omega), k_c1_some, s_setting (by omega), k_c1_some, c2, c7, et, k_c3_some]
      by_cases ht : (sp_tear Q (k + 1) st pl T 0 none).2 = true
      · rw [if_neg (by rw [if_pos ht]; decide), k_let_eq, show sp_th Q st pl T (k + 1) = sp_th Q st pl T k by rw [sp_th, if_pos ht]]
        exact ih k _ _ (by omega) (by omega)
      · rw [if_pos (by rw [if_neg ht]), show sp_th Q st pl T (k + 1) = k + 1 by rw [sp_th, if_neg ht], if_neg (by omega)]
        exact ⟨_, _, rfl⟩
theorem s_ho_loop {N u l o g a b th st pl : Nat} {c w : Nat → Int32} (us up ut um : Int32) (h : PC c w u l a b) (ho : o ≤ 23) (hg : g ≤ 30) (hth : th ≤ 30) (hst : st ≤ 30) (hpl : pl ≤ 30) (w5 : w 5 = nI st) (w1 : w 1 = nI pl) :
    ∀ (n s : Nat) (pr : Option Int) (ue : Int32), s ≤ Nat.lcm a b → Nat.lcm a b - s < n → sp_ue ue pr → ∃ ue', f_X7_holds_20 N n (nI u) (nI l) (nI o) (nI g) (nI th) (nI (Nat.lcm a b)) (nI 1) (nI s) us up ue ut um w = some (nI (if (sp_tear (fun s => (g : Int) + sp_q w u l o a b s) th st pl (Nat.lcm a b - s) s pr).2 = true then 0 else 1), ue') := by
  have hB := QB_q h o g hg
  obtain ⟨T0, T1, -⟩ := id hB
  intro n
  induction n with
  | zero => intro s pr ue h1 h2; omega
  | succ n ih =>
    intro s pr ue h1 h2 hue
    show ∃ ue', b_X7_holds_20 N (f_X7_holds_20 N n) (nI u) (nI l) (nI o) (nI g) (nI th) (nI (Nat.lcm a b)) (nI 1) (nI s) us up ue ut um w = _
    unfold b_X7_holds_20
    by_cases hse : s = Nat.lcm a b
    · rw [if_pos (by rw [nI_leI (by omega) (by omega)]; omega), hse, Nat.sub_self, k_bit1]
      exact ⟨ue, rfl⟩
    · rw [if_neg (by rw [nI_leI (by omega) (by omega)]; omega), if_neg (by decide)]
      have hb := hB.2.2.1 s
      dsimp only at hb
      have hb0 := sp_q_bd h o s
      obtain ⟨v, ev, hv⟩ := s_rpress (N := N) us up ue ut um h ho (show s ≤ 100000 by omega)
      have ey : (v + nI g).toInt = (fun s => (g : Int) + sp_q w u l o a b s) s := by
        rw [q_add (by rw [hv, nI_toInt (by omega)]; omega) (by rw [hv, nI_toInt (by omega)]; omega), hv, nI_toInt (by omega)]; dsimp only; omega
      obtain ⟨ue1, et, hue1⟩ := s_rtears (N := N) us up ue ut um hB hth hst hpl w5 w1 ey pr hue
      rw [ev, k_c1_some, et, k_c2_some, show Nat.lcm a b - s = (Nat.lcm a b - (s + 1)) + 1 by omega]
      simp only [q_lit, k_let_eq, nI_add]
      by_cases hc : (decide ((st : Int) < sp_by (fun s => (g : Int) + sp_q w u l o a b s) th s) || sp_pull pl (sp_by (fun s => (g : Int) + sp_q w u l o a b s) th s) pr) = true
      · rw [if_pos hc]
        rw [if_neg (show ¬ nI 1 = nI 0 by decide), sp_tear_t hc]
        obtain ⟨n', rfl⟩ : ∃ n', n = n' + 1 := ⟨n - 1, by omega⟩
        show ∃ ue', b_X7_holds_20 N (f_X7_holds_20 N n') (nI u) (nI l) (nI o) (nI g) (nI th) (nI (Nat.lcm a b)) (nI 0) (nI (s + 1)) us up ue1 ut um w = _
        unfold b_X7_holds_20
        simp only [q_lit, k_bit0]
        refine ⟨ue1, ?_⟩
        split
        · rfl
        · rfl
      · rw [if_neg hc]
        rw [if_pos rfl, sp_tear_f hc]
        exact ih (s + 1) _ ue1 (by omega) (by omega) hue1
theorem s_rth_loop {N u l o g a b st pl : Nat} {c w : Nat → Int32} (hN : 20000 ≤ N) (us up ut um : Int32) (h : PC c w u l a b) (ho : o ≤ 23) (hg : g ≤ 30) (hst : st ≤ 30) (hpl : pl ≤ 30) (w5 : w 5 = nI st) (w1 : w 1 = nI pl) :
    ∀ (n th : Nat) (ue : Int32), th ≤ 30 → th < n → ∃ ue', f_X7_thickest_40 N n (nI u) (nI l) (nI o) (nI g) (nI th) us up ue ut um w = some (if sp_th (fun s => (g : Int) + sp_q w u l o a b s) st pl (Nat.lcm a b) th = 0 then -nI 6 else nI (sp_th (fun s => (g : Int) + sp_q w u l o a b s) st pl (Nat.lcm a b) th), ue') := by
  obtain ⟨⟨hu8, hl8⟩, ⟨a1, a2, a3, a4⟩, ⟨b1, b2, b3, b4⟩, -, -⟩ := id h
  obtain ⟨T0, T1⟩ := q_T a1 a2 b1 b2
  intro n
  induction n with
  | zero => intro th ue h1 h2; omega
  | succ n ih =>
    intro th ue h1 h2
    show ∃ ue', b_X7_thickest_40 N (f_X7_thickest_40 N n) (nI u) (nI l) (nI o) (nI g) (nI th) us up ue ut um w = _
    unfold b_X7_thickest_40
    by_cases h0 : th = 0
    · subst h0
      simp only [q_lit]
      rw [if_pos (by decide), if_pos trivial]
      exact ⟨ue, rfl⟩
    · obtain ⟨k, rfl⟩ : ∃ k, th = k + 1 := ⟨th - 1, by omega⟩
      rw [if_neg (by simp only [q_lit]; rw [nI_leI (by omega) (by omega)]; omega)]
      obtain ⟨ue1, e1⟩ := s_ho_loop (N := N) us up ut um h ho hg (show k + 1 ≤ 30 by omega) hst hpl w5 w1 N 0 none (-nI 6) (by omega) (by omega) rfl
      have e2 : p_X7_holds N (nI u) (nI l) (nI o) (nI g) (nI (k + 1)) us up ue ut um w = some (nI (if (sp_tear (fun s => (g : Int) + sp_q w u l o a b s) (k + 1) st pl (Nat.lcm a b) 0 none).2 = true then 0 else 1), ue1) := by
        unfold p_X7_holds
        simp only [q_lit]
        rw [s_turn hN us up ue ut um hu8 hl8 a4 b4 a1 a2 b1 b2, k_c1_some]
        exact e1
      rw [e2, k_c2_some]
      simp only [pk_m1, k_let_eq]
      simp only [q_lit]
      by_cases ht : (sp_tear (fun s => (g : Int) + sp_q w u l o a b s) (k + 1) st pl (Nat.lcm a b) 0 none).2 = true
      · rw [if_pos (by rw [if_pos ht]), show sp_th (fun s => (g : Int) + sp_q w u l o a b s) st pl (Nat.lcm a b) (k + 1) = sp_th (fun s => (g : Int) + sp_q w u l o a b s) st pl (Nat.lcm a b) k by rw [sp_th, if_pos ht]]
        exact ih k ue1 (by omega) (by omega)
      · rw [if_neg (by rw [if_neg ht]; decide), if_neg (by rw [nI_eq (by omega) (by omega)]; omega), show sp_th (fun s => (g : Int) + sp_q w u l o a b s) st pl (Nat.lcm a b) (k + 1) = k + 1 by rw [sp_th, if_neg ht], if_neg (by omega)]
        exact ⟨ue1, rfl⟩
theorem e_thickest {N : Nat} {c w : Nat → Int32} (hN : 20000 ≤ N) (hR : SR c w) (x1 x2 x3 x4 tl ta tt : Int32) (tp : Nat → Int32) (us up ue ut um : Int32) :
    ∃ r tl' ta' tt' tp' ue', p_X6_thickest N x1 x2 x3 x4 c tl ta tt tp = some (r, tl', ta', tt', tp') ∧ p_X7_thickest N x1 x2 x3 x4 us up ue ut um w = some (r, ue') := by
  obtain ⟨⟨m, hm⟩, th, st, sl, pu, we, ⟨t1, t2, t3, t4⟩, ⟨u1, u2, u3⟩, ⟨v1, v2, v3⟩, ⟨d1, d2, d3⟩, ⟨p1, p2, p3⟩, hwe⟩ := id hR
  unfold p_X6_thickest p_X7_thickest
  rcases s_err (N := N) us up ue ut um hm x1 x2 x3 x4 with ⟨e, e1, e2, h1, h2⟩ | ⟨u, l, o, g, hu, hl, hne, ho, hg, rfl, rfl, rfl, rfl, h1, h2⟩
  · refine ⟨-nI e, tl, ta, tt, tp, ue, ?_, ?_⟩
    · rw [h1]; simp (disch := omega) only [q_lit, nI_add, pk_mul, k_let_eq, k_c1_some, k_c2_some, k_c3_some, k_c4_some, k_c5_some, k_c6_some, k_c7_some, k_c8_some, k_c9_some, k_c10_some, k_c11_some, k_c12_some, k_c13_some, k_c14_some, k_c15_some, k_c16_some, k_c17_some, k_ld_nI, k_st_nI, k_nz_nI, k_bit0, k_bit1, pk_rem, pk_sub, q_nn, q_np, q_pn, q_lnp, q_lpn, q_enp, q_epn, nI_leI, nI_ltI, nI_eq, if_pos, if_neg, ↓reduceIte]
    · rw [h2]; simp (disch := omega) only [q_lit, nI_add, pk_mul, k_let_eq, k_c1_some, k_c2_some, k_c3_some, k_c4_some, k_c5_some, k_c6_some, k_c7_some, k_c8_some, k_c9_some, k_c10_some, k_c11_some, k_c12_some, k_c13_some, k_c14_some, k_c15_some, k_c16_some, k_c17_some, k_ld_nI, k_st_nI, k_nz_nI, k_bit0, k_bit1, pk_rem, pk_sub, q_nn, q_np, q_pn, q_lnp, q_lpn, q_enp, q_epn, nI_leI, nI_ltI, nI_eq, if_pos, if_neg, ↓reduceIte]
  rw [h1, h2]
  obtain ⟨a, b, hP⟩ := PC_of hm hu hl
  obtain ⟨tp', et, hQ⟩ := s_layQ hN tl ta tt tp hP ho hg
  have em := s_meshes (σ := sl) (ta := ta) (tt := tt) hN hQ d1
  have ea := s_ag (σ := sl) hN us up ue ut um hP ho hg d1 d3
  cases hf : sp_ff (sp_bad (fun s => (g : Int) + sp_q w u l o a b s) (Nat.lcm a b) sl) (Nat.lcm a b) 0 with
  | some s =>
    have hs := sp_ff_some _ _ _ hf
    have hT := hQ.2.1
    rw [hf, if_neg (fun q => by cases q)] at em
    rw [hf] at ea
    refine ⟨-nI 6, nI (Nat.lcm a b), ta, tt, tp', ue, ?_, ?_⟩
    · simp (disch := omega) only [q_lit, nI_add, pk_mul, k_let_eq, k_c1_some, k_c2_some, k_c3_some, k_c4_some, k_c5_some, k_c6_some, k_c7_some, k_c8_some, k_c9_some, k_c10_some, k_c11_some, k_c12_some, k_c13_some, k_c14_some, k_c15_some, k_c16_some, k_c17_some, k_ld_nI, k_st_nI, k_nz_nI, k_bit0, k_bit1, pk_rem, pk_sub, q_nn, q_np, q_pn, q_lnp, q_lpn, q_enp, q_epn, nI_leI, nI_ltI, nI_eq, if_pos, if_neg, ↓reduceIte, et, s_setting, d2, em]
    · simp (disch := omega) only [q_lit, nI_add, pk_mul, k_let_eq, k_c1_some, k_c2_some, k_c3_some, k_c4_some, k_c5_some, k_c6_some, k_c7_some, k_c8_some, k_c9_some, k_c10_some, k_c11_some, k_c12_some, k_c13_some, k_c14_some, k_c15_some, k_c16_some, k_c17_some, k_ld_nI, k_st_nI, k_nz_nI, k_bit0, k_bit1, pk_rem, pk_sub, q_nn, q_np, q_pn, q_lnp, q_lpn, q_enp, q_epn, nI_leI, nI_ltI, nI_eq, if_pos, if_neg, ↓reduceIte, ea, sp_ans2]
      split <;> simp (disch := omega) only [q_lit, nI_add, pk_mul, k_let_eq, k_c1_some, k_c2_some, k_c3_some, k_c4_some, k_c5_some, k_c6_some, k_c7_some, k_c8_some, k_c9_some, k_c10_some, k_c11_some, k_c12_some, k_c13_some, k_c14_some, k_c15_some, k_c16_some, k_c17_some, k_ld_nI, k_st_nI, k_nz_nI, k_bit0, k_bit1, pk_rem, pk_sub, q_nn, q_np, q_pn, q_lnp, q_lpn, q_enp, q_epn, nI_leI, nI_ltI, nI_eq, if_pos, if_neg, ↓reduceIte]
  | none =>
    rw [hf, if_pos rfl] at em
    rw [hf] at ea
    have hB := QB_q hP o g hg
    obtain ⟨ta', tt', el⟩ := s_th_loop (N := N) (c := c) hN hQ hB u1 p1 u2 p2 N 30 ta tt (by omega) (by omega)
    obtain ⟨ue', er⟩ := s_rth_loop (N := N) hN us up ut um hP ho hg u1 p1 u3 p3 N 30 ue (by omega) (by omega)
    refine ⟨(if sp_th (fun s => (g : Int) + sp_q w u l o a b s) st pu (Nat.lcm a b) 30 = 0 then -nI 6 else nI (sp_th (fun s => (g : Int) + sp_q w u l o a b s) st pu (Nat.lcm a b) 30)), nI (Nat.lcm a b), ta', tt', tp', ue', ?_, ?_⟩
    · simp (disch := omega) only [q_lit, nI_add, pk_mul, k_let_eq, k_c1_some, k_c2_some, k_c3_some, k_c4_some, k_c5_some, k_c6_some, k_c7_some, k_c8_some, k_c9_some, k_c10_some, k_c11_some, k_c12_some, k_c13_some, k_c14_some, k_c15_some, k_c16_some, k_c17_some, k_ld_nI, k_st_nI, k_nz_nI, k_bit0, k_bit1, pk_rem, pk_sub, q_nn, q_np, q_pn, q_lnp, q_lpn, q_enp, q_epn, nI_leI, nI_ltI, nI_eq, if_pos, if_neg, ↓reduceIte, et, s_setting, d2, em]
      exact el
    · simp (disch := omega) only [q_lit, nI_add, pk_mul, k_let_eq, k_c1_some, k_c2_some, k_c3_some, k_c4_some, k_c5_some, k_c6_some, k_c7_some, k_c8_some, k_c9_some, k_c10_some, k_c11_some, k_c12_some, k_c13_some, k_c14_some, k_c15_some, k_c16_some, k_c17_some, k_ld_nI, k_st_nI, k_nz_nI, k_bit0, k_bit1, pk_rem, pk_sub, q_nn, q_np, q_pn, q_lnp, q_lpn, q_enp, q_epn, nI_leI, nI_ltI, nI_eq, if_pos, if_neg, ↓reduceIte, ea, sp_ans2]
      exact er
