-- the first fault of the text
theorem q_map4 {z : Option (Int32 × Int32 × Int32 × Int32 × (Nat → Int32))} {x y : Int32} (h : z.map q_p4 = some (x, y)) : ∃ a b g, z = some (x, a, b, y, g) := by
  rcases z with _ | ⟨z1, z2, z3, z4, z5⟩
  · cases h
  · have h1 : z1 = x := congrArg Prod.fst (Option.some.inj h)
    have h2 : z4 = y := congrArg Prod.snd (Option.some.inj h)
    subst h1 h2
    exact ⟨z2, z3, z5, rfl⟩
theorem q_map2 {z : Option (Int32 × Int32 × Int32 × (Nat → Int32))} {x y : Int32} (h : z.map q_p2 = some (x, y)) : ∃ a g, z = some (x, y, a, g) := by
  rcases z with _ | ⟨z1, z2, z3, z4⟩
  · cases h
  · have h1 : z1 = x := congrArg Prod.fst (Option.some.inj h)
    have h2 : z2 = y := congrArg Prod.snd (Option.some.inj h)
    subst h1 h2
    exact ⟨z3, z4, rfl⟩
def GD (N n : Nat) (pp ux : Nat → Int32) : Nat → Nat → Prop
  | 0, _ => False
  | m + 1, p => ∃ L b q f, OK N n pp ux p L b q f ∧ (q = n ∨ (q < n ∧ pp q = nI 59 ∧ GD N n pp ux m (q + 1)))
theorem s_fz (N n p m : Nat) (us ue um : Int32) (ux uo : Nat → Int32) (hn : n ≤ 80) (hp : p ≤ n) : f_X7_fault_7 N (m + 1) (nI 0) us (nI n) ue (nI p) um ux uo = some (if p = n then -nI 6 else nI p, nI p, um, uo) := by
  show b_X7_fault_7 N (f_X7_fault_7 N m) (nI 0) us (nI n) ue (nI p) um ux uo = _
  unfold b_X7_fault_7
  simp only [q_lit]
  rw [if_pos trivial]
  by_cases h : p = n
  · rw [if_pos (by rw [h]), if_pos h]
  · rw [if_neg (by rw [nI_eq (by omega) (by omega)]; exact h), if_neg h]
theorem e_flp {N n : Nat} {pp ux : Nat → Int32} (hN : 20000 ≤ N) (hn : n ≤ 80) (hpp : ∀ i, i < n → pp i = ux i ∧ q_in (ux i) 33 126) : ∀ m x p : Nat, 2 * x ≤ p → p ≤ n → n + 1 - p < m →
    ∃ r, ((r = -nI 6 ∧ GD N n pp ux m p) ∨ ∃ j, j ≤ 80 ∧ r = nI j) ∧ (∀ a k g, ∃ a' k' t' g', f_X2_firstFault_6 N m (nI x) (nI n) pp a k (nI p) g = some (r, a', k', t', g')) ∧ (∀ us ue um g, ∃ t' a' g', f_X7_fault_7 N m (nI 1) us (nI n) ue (nI p) um ux g = some (r, t', a', g')) := by
  intro m
  induction m with
  | zero => intro x p h1 h2 h3; omega
  | succ m ih =>
    intro x p h1 h2 h3
    show ∃ r, ((r = -nI 6 ∧ GD N n pp ux (m + 1) p) ∨ ∃ j, j ≤ 80 ∧ r = nI j) ∧ (∀ a k g, ∃ a' k' t' g', b_X2_firstFault_6 N (f_X2_firstFault_6 N m) (nI x) (nI n) pp a k (nI p) g = some (r, a', k', t', g')) ∧ (∀ us ue um g, ∃ t' a' g', b_X7_fault_7 N (f_X7_fault_7 N m) (nI 1) us (nI n) ue (nI p) um ux g = some (r, t', a', g'))
    unfold b_X2_firstFault_6 b_X7_fault_7 p_X1_length
    simp only [q_lit, k_let_eq, k_c1_some]
    have hx : ¬ nI 80 ≤ nI x := by rw [nI_leI (by omega) (by omega)]; omega
    have h10 : ¬ nI 1 = nI 0 := by decide
    rcases e_order hN hn hpp h2 with ⟨L, b, q, f, hO⟩ | ⟨L, q, hB⟩
    rotate_left
    · obtain ⟨b1, b2, b3, b4, b5⟩ := hB
      refine ⟨nI q, Or.inr ⟨q, by omega, rfl⟩, fun a k g => ?_, fun us ue um g => ?_⟩
      · obtain ⟨a', k', g', e⟩ := q_map4 (b3 a k g)
        refine ⟨a', k', nI q, g', ?_⟩
        rw [if_neg hx, e, k_c5_some, if_pos rfl]
      · obtain ⟨a', g', e⟩ := q_map2 (b5 us ue um g)
        refine ⟨nI q, a', g', ?_⟩
        rw [if_neg h10, b4, k_c2_some, e, k_c4_some, if_pos rfl]
    have hO2 := hO
    obtain ⟨b1, b2, -, b3, b4, b5⟩ := hO2
    obtain ⟨m, rfl⟩ : ∃ m', m = m' + 1 := ⟨m - 1, by omega⟩
    by_cases hq : q = n
    · subst hq
      refine ⟨-nI 6, Or.inl ⟨rfl, L, b, q, f, hO, Or.inl rfl⟩, fun a k g => ?_, fun us ue um g => ?_⟩
      · obtain ⟨g', e, -⟩ := b3 a k g
        refine ⟨nI b, L, nI q, g', ?_⟩
        rw [if_neg hx, e, k_c5_some, if_neg h10, if_pos rfl]
      · obtain ⟨g', e, -⟩ := b5 us ue um g
        rcases e_skip (N := N) hn hpp (x := 59) (by omega) (by omega) (p := q) (by omega) with ⟨s1, -⟩ | ⟨-, -, s3⟩
        · omega
        · refine ⟨nI q, nI b, g', ?_⟩
          rw [if_neg h10, b4, k_c2_some, e, k_c4_some, if_neg h10, s3, k_c2_some, s_fz _ _ _ _ _ _ _ _ _ hn (by omega), if_pos rfl]
    · have hqn : ¬ nI q = nI n := by rw [nI_eq (by omega) (by omega)]; exact hq
      rcases e_skip (N := N) hn hpp (x := 59) (by omega) (by omega) (p := q) (by omega) with ⟨s1, s0, s2, s3⟩ | ⟨-, s2, s3⟩
      · obtain ⟨r, hr, i1, i2⟩ := ih (x + 1) (q + 1) (by omega) (by omega) (by omega)
        refine ⟨r, ?_, fun a k g => ?_, fun us ue um g => ?_⟩
        · rcases hr with ⟨hr, hg⟩ | hr
          · exact Or.inl ⟨hr, L, b, q, f, hO, Or.inr ⟨s1, s0, hg⟩⟩
          · exact Or.inr hr
        · obtain ⟨g', e, -⟩ := b3 a k g
          obtain ⟨a2, k2, t2, g2, e2⟩ := i1 (nI b) L g'
          refine ⟨a2, k2, t2, g2, ?_⟩
          rw [if_neg hx, e, k_c5_some, if_neg h10, if_neg hqn, s2, k_c2_some, if_neg h10, nI_add]
          exact e2
        · obtain ⟨g', e, -⟩ := b5 us ue um g
          obtain ⟨t2, a2, g2, e2⟩ := i2 us ue (nI b) g'
          refine ⟨t2, a2, g2, ?_⟩
          rw [if_neg h10, b4, k_c2_some, e, k_c4_some, if_neg h10, s3, k_c2_some]
          exact e2
      · refine ⟨nI q, Or.inr ⟨q, by omega, rfl⟩, fun a k g => ?_, fun us ue um g => ?_⟩
        · obtain ⟨g', e, -⟩ := b3 a k g
          refine ⟨nI b, L, nI q, g', ?_⟩
          rw [if_neg hx, e, k_c5_some, if_neg h10, if_neg hqn, s2, k_c2_some, if_pos rfl]
        · obtain ⟨g', e, -⟩ := b5 us ue um g
          refine ⟨nI q, nI b, g', ?_⟩
          rw [if_neg h10, b4, k_c2_some, e, k_c4_some, if_neg h10, s3, k_c2_some, s_fz _ _ _ _ _ _ _ _ _ hn (by omega), if_neg hq]
theorem e_ff {N n : Nat} {pl up : Int32} {pp ux : Nat → Int32} (hN : 20000 ≤ N) (hP : PD pl pp up ux n) (a k t us ue ut um : Int32) (g uo : Nat → Int32) :
    ∃ r a' k' t' g' ut' um' uo', ((r = -nI 6 ∧ ∃ m, GD N n pp ux m 0) ∨ ∃ j, j ≤ 80 ∧ r = nI j) ∧ p_X2_firstFault N pl pp a k t g = some (r, a', k', t', g') ∧ p_X7_fault N us up ue ut um ux uo = some (r, ut', um', uo') := by
  obtain ⟨h1, rfl, rfl, h4⟩ := hP
  obtain ⟨r, hr, i1, i2⟩ := e_flp (N := N) hN h1 h4 N 0 0 (by omega) (by omega) (by omega)
  obtain ⟨a', k', t', g', e1⟩ := i1 a k g
  obtain ⟨ut', um', uo', e2⟩ := i2 us ue um uo
  refine ⟨r, a', k', t', g', ut', um', uo', ?_, ?_, ?_⟩
  · rcases hr with ⟨hr, hg⟩ | hr
    · exact Or.inl ⟨hr, N, hg⟩
    · exact Or.inr hr
  · unfold p_X2_firstFault p_X2_begin
    simp only [q_lit, k_c1_some]
    exact e1
  · unfold p_X7_fault
    simp only [q_lit]
    exact e2
theorem e_fault {N n : Nat} {pl up : Int32} {pp ux : Nat → Int32} (hN : 20000 ≤ N) (hP : PD pl pp up ux n) (a k t us ue ut um : Int32) (g uo : Nat → Int32) :
    ∃ r a' k' t' g' ut' um' uo', p_X6_fault N pl pp a k t g = some (r, a', k', t', g') ∧ p_X7_fault N us up ue ut um ux uo = some (r, ut', um', uo') := by
  obtain ⟨r, a', k', t', g', ut', um', uo', -, e1, e2⟩ := e_ff hN hP a k t us ue ut um g uo
  refine ⟨r, a', k', t', g', ut', um', uo', ?_, e2⟩
  unfold p_X6_fault
  rw [e1, k_c5_some]
