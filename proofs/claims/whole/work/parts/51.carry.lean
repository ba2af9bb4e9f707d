-- the whole text carried out
theorem s_rend {N n : Nat} {pp : Nat → Int32} (hn : n ≤ 80) (a k : Int32) (g : Nat → Int32) : p_X2_readOrder N (nI n) pp a k (nI n) g = some (nI 0, nI 0, nI 0, nI n, g) := by
  unfold p_X2_readOrder
  rw [s_codeAt_f hn (by omega) (by omega), k_c1_some, if_neg (by decide), if_neg (by decide), if_neg (by decide), if_neg (by decide)]
  simp only [q_lit]
theorem s_c0 (N m : Nat) (x1 : Int32) (us up ue ut um : Int32) (w uq ux uo : Nat → Int32) : f_X7_carryOut_25 N (m + 1) x1 (nI 0) us up ue ut um w uq ux uo = some (x1, us, nI 0, ue, ut, um, w, uq, uo) := by
  show b_X7_carryOut_25 N (f_X7_carryOut_25 N m) x1 (nI 0) us up ue ut um w uq ux uo = _
  unfold b_X7_carryOut_25
  simp only [q_lit]
  rw [if_pos trivial]
theorem s_c1 (N m : Nat) {n p : Nat} (hn : n ≤ p) (hp : p < 20000) (x1 us ue um : Int32) (w uq ux uo : Nat → Int32) : f_X7_carryOut_25 N (m + 1) x1 (nI 1) us (nI n) ue (nI p) um w uq ux uo = some (x1, us, nI 0, ue, nI p, um, w, uq, uo) := by
  show b_X7_carryOut_25 N (f_X7_carryOut_25 N m) x1 (nI 1) us (nI n) ue (nI p) um w uq ux uo = _
  unfold b_X7_carryOut_25
  simp only [q_lit]
  rw [if_neg (show ¬ nI 1 = nI 0 by decide), if_pos (by rw [nI_leI (by omega) (by omega)]; omega)]
theorem s_k1 {N m x n : Nat} {pp c : Nat → Int32} {hf hl hf' hl' : Int32} (hx : x < 80) (hn : n ≤ 80) (hrec : ∀ v : Nat, v < 2 ^ 31 → p_X0_recorded N (nI v) hf hl = some (nI v, hf', hl')) (hs : Nat → Int32) (a k : Int32) (g : Nat → Int32) (tl ta tt : Int32) (tp : Nat → Int32) :
    f_X6_carryOut_35 N (m + 1) (nI x) c hf hl hs (nI n) pp a k (nI n) g tl ta tt tp = some (nI x, c, hf', hl', hs, nI 0, nI 0, nI 0, nI n, g, tl, ta, tt, tp) := by
  show b_X6_carryOut_35 N (f_X6_carryOut_35 N m) (nI x) c hf hl hs (nI n) pp a k (nI n) g tl ta tt tp = _
  unfold b_X6_carryOut_35 p_X1_clear
  simp only [q_lit]
  rw [if_neg (by rw [nI_leI (by omega) (by omega)]; omega), s_rend hn, k_c5_some, if_pos rfl, k_c2_some, hrec x (by omega), k_c3_some]
theorem e_clp {N n : Nat} {pp ux : Nat → Int32} {hf hl hf' hl' : Int32} (hN : 20000 ≤ N) (hn : n ≤ 80) (hpp : ∀ i, i < n → pp i = ux i ∧ q_in (ux i) 33 126) (hrec : ∀ v : Nat, v < 2 ^ 31 → p_X0_recorded N (nI v) hf hl = some (nI v, hf', hl')) (hs uq : Nat → Int32) (us : Int32) :
    ∀ m x p j : Nat, ∀ c w g uo : Nat → Int32, ∀ a k tl ta tt ue um : Int32, ∀ tp : Nat → Int32, 2 * x ≤ p → p ≤ n → n + 1 - p < m → GD N n pp ux j p → SR c w →
    ∃ x' c' a' k' t' g' tl' ta' tt' tp' ue' ut' um' w' uo', f_X6_carryOut_35 N m (nI x) c hf hl hs (nI n) pp a k (nI p) g tl ta tt tp = some (x', c', hf', hl', hs, nI 0, a', k', t', g', tl', ta', tt', tp') ∧ f_X7_carryOut_25 N m (nI x) (nI 1) us (nI n) ue (nI p) um w uq ux uo = some (x', us, nI 0, ue', ut', um', w', uq, uo') ∧ SR c' w' := by
  intro m
  induction m with
  | zero => intro x p j c w g uo a k tl ta tt ue um tp h1 h2 h3; omega
  | succ m ih =>
    intro x p j c w g uo a k tl ta tt ue um tp h1 h2 h3 hG hR
    obtain ⟨m, rfl⟩ : ∃ m', m = m' + 1 := ⟨m - 1, by omega⟩
    obtain ⟨j, rfl⟩ : ∃ j', j = j' + 1 := by
      cases j with
      | zero => exact hG.elim
      | succ j => exact ⟨j, rfl⟩
    obtain ⟨L, b, q, f, hO, hq⟩ := hG
    have hO2 := hO
    obtain ⟨b1, b2, -, b3, b4, b5⟩ := hO2
    have h10 : ¬ nI 1 = nI 0 := by decide
    have hx : ¬ nI 80 ≤ nI x := by rw [nI_leI (by omega) (by omega)]; omega
    have hup : ¬ nI n ≤ nI p := by rw [nI_leI (by omega) (by omega)]; omega
    obtain ⟨g', e1, e1g⟩ := b3 a k g
    obtain ⟨u', e2, e2g⟩ := b5 us ue um uo
    show ∃ x' c' a' k' t' g' tl' ta' tt' tp' ue' ut' um' w' uo', b_X6_carryOut_35 N (f_X6_carryOut_35 N (m + 1)) (nI x) c hf hl hs (nI n) pp a k (nI p) g tl ta tt tp = some (x', c', hf', hl', hs, nI 0, a', k', t', g', tl', ta', tt', tp') ∧ b_X7_carryOut_25 N (f_X7_carryOut_25 N (m + 1)) (nI x) (nI 1) us (nI n) ue (nI p) um w uq ux uo = some (x', us, nI 0, ue', ut', um', w', uq, uo') ∧ SR c' w'
    unfold b_X6_carryOut_35 b_X7_carryOut_25 p_X1_clear
    simp only [q_lit]
    rw [if_neg hx, e1, k_c5_some, if_neg h10, if_neg h10, if_neg hup, b4, k_c2_some, e2, k_c4_some, if_neg h10]
    rcases e_obey (N := N) hN hR hO e1g e2g (nI q) us (nI n) ue (nI q) tl ta tt tp with ⟨e, tl', ta', tt', tp', r1, r2, o1, o2⟩ | ⟨v, c', w', tl', ta', tt', tp', ue', hv, o1, o2, hR'⟩
    · refine ⟨nI x, c, nI b, L, nI q, g', tl', ta', tt', tp', ue, nI (q + 1), nI b, w, u', ?_, ?_, hR⟩
      · rw [o1, k_c6_some, if_pos (by rw [q_lnp (by omega) (by omega)]; omega), k_c2_some, hrec x (by omega), k_c3_some]
      · rw [o2, k_c3_some, if_neg (fun h => by rw [q_np (by omega) (by omega)] at h; omega)]
        simp only [k_let_eq, nI_add, Nat.add_zero]
        exact s_c0 _ _ _ _ _ _ _ _ _ _ _ _
    · rw [o1, k_c6_some, if_neg (q_pos (by omega)), o2, k_c3_some, if_pos rfl]
      simp only [k_let_eq, nI_add]
      rcases e_skip (N := N) hn hpp (x := 59) (by omega) (by omega) (p := q) (by omega) with ⟨s1, s0, s2, s3⟩ | ⟨s1, s2, s3⟩
      · rw [s2, k_c2_some]
        rcases hq with hq | ⟨q1, q2, q3⟩
        · omega
        · exact ih (x + 1) (q + 1) j c' w' g' u' (nI b) L tl' ta' tt' ue' (nI b) tp' (by omega) (by omega) (by omega) q3 hR'
      · rw [s2, k_c2_some]
        rcases hq with hq | ⟨q1, q2, q3⟩
        · subst hq
          exact ⟨nI (x + 1), c', nI 0, nI 0, nI q, g', tl', ta', tt', tp', ue', nI (q + 1), nI b, w', u', s_k1 (by omega) hn hrec _ _ _ _ _ _ _ _, s_c1 _ _ (by omega) (by omega) _ _ _ _ _ _ _ _, hR'⟩
        · exact absurd q2 (s1 q1)
theorem e_carry {N n : Nat} {pl up hf hl us : Int32} {pp ux c w hs uq : Nat → Int32} (hN : 20000 ≤ N) (hR : SR c w) (hH : HR hs hf hl uq us) (hP : PD pl pp up ux n) (a k t ue ut um tl ta tt : Int32) (g uo tp : Nat → Int32) :
    ∃ r c' hf' hl' hs' pl' a' k' t' g' tl' ta' tt' tp' us' up' ue' ut' um' w' uq' uo' n', p_X6_carryOut N c hf hl hs pl pp a k t g tl ta tt tp = some (r, c', hf', hl', hs', pl', a', k', t', g', tl', ta', tt', tp') ∧ p_X7_carryOut N us up ue ut um w uq ux uo = some (r, us', up', ue', ut', um', w', uq', uo') ∧ SR c' w' ∧ HR hs' hf' hl' uq' us' ∧ PD pl' pp up' ux n' := by
  obtain ⟨r, a', k', t', g', ut', um', uo', hr, e1, e2⟩ := e_ff hN hP a k t us ue ut um g uo
  unfold p_X6_carryOut p_X7_carryOut
  rw [e1, e2, k_c5_some, k_c4_some]
  simp only [q_lit]
  rcases hr with ⟨rfl, m, hG⟩ | ⟨j, j1, rfl⟩
  · obtain ⟨h1, rfl, rfl, h4⟩ := id hP
    obtain ⟨hs', ep, hH', hrec⟩ := h_prep (c := c) hN hH
    obtain ⟨hf', hl', us', uq', f1, f2, hH2⟩ := hrec w (nI n) ue ut' um' hR
    rw [if_pos rfl, if_pos rfl, ep, k_c1_some, f2, k_c2_some]
    unfold p_X2_begin
    simp only [q_lit, k_c1_some]
    obtain ⟨x', c', a2, k2, t2, g2, tl', ta', tt', tp', ue', ut2, um2, w', uo2, r1, r2, r3⟩ := e_clp (N := N) hN h1 h4 f1 hs' uq' us' N 0 0 m c w g' uo' a' k' tl ta tt ue um' tp (by omega) (by omega) (by omega) hG hR
    exact ⟨x', c', hf', hl', hs', nI 0, a2, k2, t2, g2, tl', ta', tt', tp', us', nI 0, ue', ut2, um2, w', uq', uo2, 0, r1, r2, r3, hH2, by omega, rfl, rfl, fun i hi => by omega⟩
  · rw [if_neg (fun h => by rw [q_pn (by omega) (by omega)] at h; omega), if_neg (fun h => by rw [q_pn (by omega) (by omega)] at h; omega)]
    exact ⟨-nI 3, c, hf, hl, hs, pl, a', k', t', g', tl, ta, tt, tp, us, up, ue, ut', um', w, uq, uo', n, rfl, rfl, hR, hH, hP⟩
