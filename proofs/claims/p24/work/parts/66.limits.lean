-- LIMITS: eight rollers whose teeth are all 9 high
theorem sp_rough_const (x : Int) (T σ s : Nat) : sp_rough (fun _ => x) T σ s = false := by
  unfold sp_rough
  exact decide_eq_false (by dsimp only; omega)
theorem sp_ff_rough_const (x : Int) (T σ : Nat) : sp_ff (sp_rough (fun _ => x) T σ) T 0 = none := (sp_ff_none T 0).mpr (fun s _ _ => sp_rough_const x T σ s)
theorem sp_ff_bad_const {x : Int} (hx : 1 ≤ x) (T σ : Nat) : sp_ff (sp_bad (fun _ => x) T σ) T 0 = none := (sp_ff_none T 0).mpr (fun s _ _ => by
  unfold sp_bad
  rw [sp_rough_const, Bool.or_false]
  exact decide_eq_false (by dsimp only; omega))
theorem sp_mn_const (x : Int) : ∀ T, sp_mn (fun _ => x) T = x
  | 0 => rfl
  | T + 1 => by
    unfold sp_mn
    rw [sp_mn_const x T]
    split <;> rfl
def LU (c : Nat → Int32) (m : Nat) : Prop := ST c m ∧ (c 1 = nI 5 ∧ c 2 = nI 5 ∧ c 3 = nI 0 ∧ c 4 = nI 0 ∧ c 5 = nI 0 ∧ c 6 = nI 6 ∧ c 7 = nI 4 ∧ c 8 = nI 20) ∧ ∀ r, r < m → c (9 + 27 * r) = nI (24 - r) ∧ c (10 + 27 * r) = nI 0 ∧ c (11 + 27 * r) = nI 0 ∧ ∀ k, k < 24 - r → c (12 + 27 * r + k) = nI 9
theorem LU_new : LU c_new 0 := ⟨ST_new, ⟨rfl, rfl, rfl, rfl, rfl, rfl, rfl, rfl⟩, fun r hr => by omega⟩
theorem LU_step {c : Nat → Int32} {m : Nat} (h : LU c m) (hm : m < 8) : ∃ c', p_X3_addRoller 20000 (nI (24 - m)) (nI 9) c = some (nI m, c') ∧ LU c' (m + 1) := by
  obtain ⟨hS, ⟨a1, a2, a3, a4, a5, a6, a7, a8⟩, hr⟩ := h
  obtain ⟨c', h1, hS', rfl⟩ := o_rollerC (t := 24 - m) (v := nI 9) hS hm (by omega) (by omega) (by unfold q_in; decide)
  have low : ∀ i, i ≠ 0 → i < 9 + 27 * m → upd (sp_fill (sp_new c m (24 - m)) (12 + 27 * m) (24 - m) (fun _ => nI 9)) 0 (nI (m + 1)) i = c i := by
    intro i hi hi2
    rw [q_un hi, sp_fill_out (by omega)]
    unfold sp_new
    rw [q_un (by omega), q_un (by omega), q_un (by omega)]
  refine ⟨_, h1, hS', ⟨?_, ?_, ?_, ?_, ?_, ?_, ?_, ?_⟩, fun r hrm => ?_⟩
  · rw [low _ (by omega) (by omega)]; exact a1
  · rw [low _ (by omega) (by omega)]; exact a2
  · rw [low _ (by omega) (by omega)]; exact a3
  · rw [low _ (by omega) (by omega)]; exact a4
  · rw [low _ (by omega) (by omega)]; exact a5
  · rw [low _ (by omega) (by omega)]; exact a6
  · rw [low _ (by omega) (by omega)]; exact a7
  · rw [low _ (by omega) (by omega)]; exact a8
  · by_cases hrr : r < m
    · obtain ⟨b1, b2, b3, b4⟩ := hr r hrr
      refine ⟨?_, ?_, ?_, fun k hk => ?_⟩
      · rw [low _ (by omega) (by omega)]; exact b1
      · rw [low _ (by omega) (by omega)]; exact b2
      · rw [low _ (by omega) (by omega)]; exact b3
      · rw [low _ (by omega) (by omega)]; exact b4 k hk
    · have e : r = m := by omega
      subst e
      refine ⟨?_, ?_, ?_, fun k hk => ?_⟩
      · rw [q_un (by omega), sp_fill_out (by omega)]; unfold sp_new; rw [q_un (by omega), q_un (by omega), q_us]
      · rw [q_un (by omega), sp_fill_out (by omega)]; unfold sp_new; rw [q_un (by omega), q_us]
      · rw [q_un (by omega), sp_fill_out (by omega)]; unfold sp_new; rw [q_us]
      · rw [q_un (by omega), sp_fill_in hk]
-- two rollers whose teeth are all 9 high
def PU (c : Nat → Int32) (u l a b : Nat) : Prop := PC c c u l a b ∧ (∀ k, k < a → c (12 + 27 * u + k) = nI 9) ∧ ∀ k, k < b → c (12 + 27 * l + k) = nI 9
theorem PU_of {c : Nat → Int32} {u l a b : Nat} (hu : u < 8) (hl : l < 8) (a1 : 2 ≤ a) (a2 : a ≤ 24) (b1 : 2 ≤ b) (b2 : b ≤ 24) (ha : c (9 + 27 * u) = nI a) (hb : c (9 + 27 * l) = nI b) (h1 : ∀ k, k < a → c (12 + 27 * u + k) = nI 9) (h2 : ∀ k, k < b → c (12 + 27 * l + k) = nI 9) : PU c u l a b := by
  refine ⟨⟨⟨hu, hl⟩, ⟨a1, a2, ha, ha⟩, ⟨b1, b2, hb, hb⟩, fun k hk => ⟨rfl, ?_⟩, fun k hk => ⟨rfl, ?_⟩⟩, h1, h2⟩
  · rw [h1 k hk, nI_toInt (by omega)]; omega
  · rw [h2 k hk, nI_toInt (by omega)]; omega
theorem PU_q {c : Nat → Int32} {u l a b : Nat} (h : PU c u l a b) (o : Nat) : sp_q c u l o a b = fun _ => (-18 : Int) := by
  obtain ⟨⟨-, ⟨a1, -⟩, ⟨b1, -⟩, -⟩, h1, h2⟩ := h
  funext s
  unfold sp_q
  rw [h1 _ (Nat.mod_lt _ (by omega)), h2 _ (Nat.mod_lt _ (by omega)), nI_toInt (by omega)]
  rfl
theorem PU_Q {c : Nat → Int32} {u l a b : Nat} (h : PU c u l a b) (o : Nat) : (fun s => ((30 : Nat) : Int) + sp_q c u l o a b s) = fun _ => (12 : Int) := by
  rw [PU_q h o]
  rfl
section LM
variable {c : Nat → Int32} {m u l a b : Nat}
theorem lm_pair0 (hm : m ≤ 8) (h0 : c 0 = nI m) (h : PU c u l a b) (hu : u < m) (hl : l < m) (hne : u ≠ l) (o : Nat) (ho : o ≤ 23) (tl ta tt : Int32) (tp : Nat → Int32) : ∃ tl' tp', p_X6_pair 20000 (nI u) (nI l) (nI o) (nI 30) (nI 0) c tl ta tt tp = some (nI (Nat.lcm a b), tl', tp') := by
  obtain ⟨tp', et, -⟩ := s_layQ (N := 20000) (g := 30) (by omega) tl ta tt tp h.1 ho (by omega)
  have e0 := pe_0 (N := 20000) (x3 := nI o) (x4 := nI 30) hm h0 hu hl hne ((q_in_nI (by omega)).mpr (by omega)) (by unfold q_in; decide)
  refine ⟨nI (Nat.lcm a b), tp', ?_⟩
  unfold p_X6_pair p_X6_questionError
  rw [e0, k_c1_some, if_pos (show nI 0 = (0 : Int32) from rfl), s_outside_t (show q_in (nI 0) (0 : Int32).toInt (3 : Int32).toInt from by unfold q_in; decide)]
  simp (disch := omega) only [q_lit, nI_add, pk_mul, k_let_eq, k_c1_some, k_c2_some, k_c3_some, k_c4_some, k_c5_some, k_c6_some, k_c7_some, k_c8_some, k_c9_some, k_c10_some, k_c11_some, k_c12_some, k_c13_some, k_c14_some, k_c15_some, k_c16_some, k_c17_some, k_ld_nI, k_st_nI, k_nz_nI, k_bit0, k_bit1, pk_rem, pk_sub, q_nn, q_np, q_pn, q_lnp, q_lpn, q_enp, q_epn, nI_leI, nI_ltI, nI_eq, if_pos, if_neg, ↓reduceIte, et, p_X5_length]
theorem lm_pair1 (hm : m ≤ 8) (h0 : c 0 = nI m) (h : PU c u l a b) (hu : u < m) (hl : l < m) (hne : u ≠ l) (o : Nat) (ho : o ≤ 23) (tl ta tt : Int32) (tp : Nat → Int32) : ∃ tl' tp', p_X6_pair 20000 (nI u) (nI l) (nI o) (nI 30) (nI 1) c tl ta tt tp = some (nI 112, tl', tp') := by
  obtain ⟨tp', et, hQ⟩ := s_layQ (N := 20000) (g := 30) (by omega) tl ta tt tp h.1 ho (by omega)
  rw [PU_Q h o] at hQ
  have e0 := pe_0 (N := 20000) (x3 := nI o) (x4 := nI 30) hm h0 hu hl hne ((q_in_nI (by omega)).mpr (by omega)) (by unfold q_in; decide)
  obtain ⟨v, ev, -, s, -, es⟩ := s_lp (N := 20000) (ta := ta) (tt := tt) (by omega) hQ
  have hv : v = nI 12 := by
    rw [← Int32.toInt_inj, es, nI_toInt (by omega)]
    rfl
  subst hv
  refine ⟨nI (Nat.lcm a b), tp', ?_⟩
  unfold p_X6_pair p_X6_questionError
  rw [e0, k_c1_some, if_pos (show nI 0 = (0 : Int32) from rfl), s_outside_t (show q_in (nI 1) (0 : Int32).toInt (3 : Int32).toInt from by unfold q_in; decide)]
  simp (disch := omega) only [q_lit, nI_add, pk_mul, k_let_eq, k_c1_some, k_c2_some, k_c3_some, k_c4_some, k_c5_some, k_c6_some, k_c7_some, k_c8_some, k_c9_some, k_c10_some, k_c11_some, k_c12_some, k_c13_some, k_c14_some, k_c15_some, k_c16_some, k_c17_some, k_ld_nI, k_st_nI, k_nz_nI, k_bit0, k_bit1, pk_rem, pk_sub, q_nn, q_np, q_pn, q_lnp, q_lpn, q_enp, q_epn, nI_leI, nI_ltI, nI_eq, if_pos, if_neg, ↓reduceIte, et, ev]
theorem lm_gap (hm : m ≤ 8) (h0 : c 0 = nI m) (h6 : c 6 = nI 6) (h : PU c u l a b) (hu : u < m) (hl : l < m) (hne : u ≠ l) (o : Nat) (ho : o ≤ 23) (tl ta tt : Int32) (tp : Nat → Int32) : ∃ tl' tp', p_X6_leastGap 20000 (nI u) (nI l) (nI o) c tl ta tt tp = some (nI 19, tl', tp') := by
  have e0 := pe_0 (N := 20000) (x3 := nI o) (x4 := 0) hm h0 hu hl hne ((q_in_nI (by omega)).mpr (by omega)) (by unfold q_in; decide)
  obtain ⟨tl', tp', eg⟩ := s_gap (N := 20000) (σ := 6) (by omega) h.1 ho (by omega) h6 tl ta tt tp
  have hG : sp_G (sp_q c u l o a b) (Nat.lcm a b) 6 = nI 19 := by
    unfold sp_G
    rw [PU_q h o, sp_ff_rough_const, sp_mn_const, if_pos ⟨rfl, by omega⟩]
    rfl
  rw [hG] at eg
  refine ⟨tl', tp', ?_⟩
  unfold p_X6_leastGap
  rw [e0, k_c1_some, if_pos (show nI 0 = (0 : Int32) from rfl), eg, k_c3_some]
theorem lm_thick {N st T v : Nat} (hN : 20000 ≤ N) (hm : m ≤ 8) (h0 : c 0 = nI m) (h2 : c 2 = nI st) (hst : st ≤ 30) (h6 : c 6 = nI 6) (h7 : c 7 = nI 4) (h : PU c u l a b) (hu : u < m) (hl : l < m) (hne : u ≠ l) (hT : Nat.lcm a b = T) (hv : sp_th (fun _ => 12) st 4 T 30 = v) (hv0 : v ≠ 0) (tl ta tt : Int32) (tp : Nat → Int32) : ∃ tl' ta' tt' tp', p_X6_thickest N (nI u) (nI l) (nI 0) (nI 30) c tl ta tt tp = some (nI v, tl', ta', tt', tp') := by
  have e0 := pe_0 (N := N) (x3 := nI 0) (x4 := nI 30) hm h0 hu hl hne (by unfold q_in; decide) (by unfold q_in; decide)
  obtain ⟨tp', et, hQ⟩ := s_layQ (N := N) (g := 30) (by omega) tl ta tt tp h.1 (show 0 ≤ 23 by omega) (by omega)
  have hB := QB_q h.1 0 30 (by omega)
  rw [PU_Q h 0] at hQ hB
  have em := s_meshes (N := N) (σ := 6) (ta := ta) (tt := tt) (by omega) hQ (by omega)
  rw [sp_ff_bad_const (by omega), if_pos rfl] at em
  obtain ⟨ta', tt', el⟩ := s_th_loop (N := N) (c := c) (by omega) hQ hB hst (show 4 ≤ 30 by omega) h2 h7 N 30 ta tt (by omega) (by omega)
  rw [hT, hv, if_neg hv0] at el
  rw [hT] at et em
  refine ⟨nI T, ta', tt', tp', ?_⟩
  unfold p_X6_thickest
  rw [e0, k_c1_some, if_pos (show nI 0 = (0 : Int32) from rfl)]
  simp (disch := omega) only [q_lit, nI_add, pk_mul, k_let_eq, k_c1_some, k_c2_some, k_c3_some, k_c4_some, k_c5_some, k_c6_some, k_c7_some, k_c8_some, k_c9_some, k_c10_some, k_c11_some, k_c12_some, k_c13_some, k_c14_some, k_c15_some, k_c16_some, k_c17_some, k_ld_nI, k_st_nI, k_nz_nI, k_bit0, k_bit1, pk_rem, pk_sub, q_nn, q_np, q_pn, q_lnp, q_lpn, q_enp, q_epn, nI_leI, nI_ltI, nI_eq, if_pos, if_neg, ↓reduceIte, et, s_setting, h6, em]
  exact el
end LM
theorem lm_turn {N : Nat} {c : Nat → Int32} {r t : Nat} (hN : 20000 ≤ N) (hr : r < 8) (t1 : 2 ≤ t) (t2 : t ≤ 24) (ht : c (9 + 27 * r) = nI t) (hs : c (10 + 27 * r) = nI 0) (hw : c (11 + 27 * r) = nI 0) (h8 : c 8 = nI 20) (hh : ∀ k, k < t → c (12 + 27 * r + k) = nI 9) : ∃ c', p_X3_turnRoller N (nI r) (nI 9801) c = some c' ∧ c' (9 + 27 * r) = nI t ∧ c' (10 + 27 * r) = nI 0 ∧ c' (11 + 27 * r) = nI 1 ∧ (∀ k, k < t → c' (12 + 27 * r + k) = nI 8) ∧ ∀ i, (i < 9 + 27 * r ∨ 36 + 27 * r ≤ i) → c' i = c i := by
  have el := s_wear_loop (N := N) (r := r) (t := t) (upd c (10 + 27 * r) (nI 9801)) hr t2 N 0 (by omega) (by omega)
  rw [sp_wear_0] at el
  refine ⟨upd (upd (sp_wear (upd c (10 + 27 * r) (nI 9801)) (12 + 27 * r) t) (10 + 27 * r) (nI 0)) (11 + 27 * r) ((upd c (10 + 27 * r) (nI 9801)) (11 + 27 * r) + nI 1), ?_, ?_, ?_, ?_, fun k hk => ?_, fun i hi => ?_⟩
  · unfold p_X3_turnRoller
    simp only [q_lit, pk_mul, nI_add, k_let_eq, s_placeOf, k_c1_some]
    rw [show 9 + 27 * r + 1 = 10 + 27 * r by omega, s_raise (by omega), k_c1_some, hs, nI_add, Nat.zero_add, s_made hr, k_c1_some, q_us, s_setting (by omega), k_c1_some, s_teeth hr, k_c1_some, q_un (by omega), q_un (by omega), h8, ht, pk_mul, if_neg (by rw [nI_ltI (by omega) (by omega)]; have := Nat.mul_le_mul_left 20 t2; omega)]
    unfold p_X3_wearDown
    simp only [q_lit]
    rw [s_teeth hr, k_c1_some, q_un (by omega), ht, el, k_c1_some]
  · rw [q_un (by omega), q_un (by omega), sp_wear_out (by omega), q_un (by omega)]; exact ht
  · rw [q_un (by omega), q_us]
  · rw [q_us, q_un (by omega), hw]; rfl
  · rw [q_un (by omega), q_un (by omega), sp_wear_in hk, q_un (by omega), hh k hk, if_neg (by decide)]; rfl
  · rw [q_un (by omega), q_un (by omega), sp_wear_out (by omega), q_un (by omega)]
theorem sp_run_big : sp_run (fun _ => 12) 30 30 4 99 99 0 0 = (9801, 0) := by decide +kernel
theorem lm_run {N : Nat} {c : Nat → Int32} (hN : 20000 ≤ N) (hS : ST c 8) (c1 : c 1 = nI 30) (c2 : c 2 = nI 30) (c5 : c 5 = nI 0) (c6 : c 6 = nI 6) (c7 : c 7 = nI 4) (c8 : c 8 = nI 20) (hr : ∀ r, r < 8 → c (9 + 27 * r) = nI (24 - r) ∧ c (10 + 27 * r) = nI 0 ∧ c (11 + 27 * r) = nI 0 ∧ ∀ k, k < 24 - r → c (12 + 27 * r + k) = nI 9) (tl ta tt : Int32) (tp : Nat → Int32) :
    ∃ c' tl' ta' tt' tp', p_X6_runCards N (nI 0) (nI 1) (nI 0) (nI 30) (nI 99) (nI 99) c tl ta tt tp = some (nI 0, c', tl', ta', tt', tp') ∧ ST c' 8 ∧ c' 5 = nI 9801 ∧ c' 11 = nI 1 ∧ c' (12 + 23) = nI 8 ∧ c' (39 + 22) = nI 8 ∧ c' 64 = nI 0 ∧ c' 9 = nI 24 ∧ c' 36 = nI 23 := by
  obtain ⟨⟨w, hR⟩, h0, h8⟩ := id hS
  obtain ⟨d1, d2, d3, d4⟩ := hr 0 (by omega)
  obtain ⟨e1, e2, e3, e4⟩ := hr 1 (by omega)
  obtain ⟨-, f2, -, -⟩ := hr 2 (by omega)
  have hPU : PU c 0 1 24 23 := PU_of (by omega) (by omega) (by omega) (by omega) (by omega) (by omega) d1 e1 d4 e4
  have ep := pe_0 (N := N) (u := 0) (l := 1) (x3 := nI 0) (x4 := nI 30) h8 h0 (by omega) (by omega) (by omega) (by unfold q_in; decide) (by unfold q_in; decide)
  obtain ⟨tp', et, hQ⟩ := s_layQ (N := N) (g := 30) (by omega) tl ta tt tp hPU.1 (show 0 ≤ 23 by omega) (by omega)
  have hB := QB_q hPU.1 0 30 (by omega)
  rw [PU_Q hPU 0] at hQ hB
  have em := s_meshes (N := N) (σ := 6) (ta := ta) (tt := tt) (by omega) hQ (by omega)
  rw [sp_ff_bad_const (by omega), if_pos rfl] at em
  have el := s_rc_loop (N := N) (u := 0) (l := 1) (c := c) (steps := 99) (cards := 99) (by omega) hQ hB (show 30 ≤ 30 by omega) (show 30 ≤ 30 by omega) (show 4 ≤ 30 by omega) (by omega) (by omega) c1 c2 c7 N 0 0 0 (by omega) (by omega) (by omega) (by omega)
  rw [Nat.sub_zero, Nat.zero_mod, sp_run_big] at el
  dsimp only at el
  have ecr : p_X3_countRun N (nI 99) (nI 0) (nI 9801) c = some (upd (upd (upd c 3 (c 3 + nI 99)) 4 (c 4 + nI 0)) 5 (c 5 + nI 9801)) := by
    unfold p_X3_countRun
    simp only [q_lit]
    rw [s_raise (by omega), k_c1_some, s_raise (by omega), k_c1_some, s_raise (by omega), k_c1_some, q_un (show 4 ≠ 3 by omega), q_un (show 5 ≠ 4 by omega), q_un (show 5 ≠ 3 by omega)]
  rw [ecr, k_c1_some] at el
  have lo : ∀ i, 8 ≤ i → upd (upd (upd c 3 (c 3 + nI 99)) 4 (c 4 + nI 0)) 5 (c 5 + nI 9801) i = c i := fun i hi => by
    rw [q_un (by omega), q_un (by omega), q_un (by omega)]
  have hi5 : upd (upd (upd c 3 (c 3 + nI 99)) 4 (c 4 + nI 0)) 5 (c 5 + nI 9801) 5 = nI 9801 := by rw [q_us, c5]; rfl
  generalize upd (upd (upd c 3 (c 3 + nI 99)) 4 (c 4 + nI 0)) 5 (c 5 + nI 9801) = ca at el lo hi5
  obtain ⟨cb, hb, hb1, hb2, hb3, hb4, hb5⟩ := lm_turn (N := N) (c := ca) (r := 0) (t := 24) hN (by omega) (by omega) (by omega) (by rw [lo _ (by omega)]; exact d1) (by rw [lo _ (by omega)]; exact d2) (by rw [lo _ (by omega)]; exact d3) (by rw [lo _ (by omega)]; exact c8) (fun k hk => by rw [lo _ (by omega)]; exact d4 k hk)
  obtain ⟨cc, hc, hc1, hc2, hc3, hc4, hc5⟩ := lm_turn (N := N) (c := cb) (r := 1) (t := 23) hN (by omega) (by omega) (by omega) (by rw [hb5 _ (by omega), lo _ (by omega)]; exact e1) (by rw [hb5 _ (by omega), lo _ (by omega)]; exact e2) (by rw [hb5 _ (by omega), lo _ (by omega)]; exact e3) (by rw [hb5 _ (by omega), lo _ (by omega)]; exact c8) (fun k hk => by rw [hb5 _ (by omega), lo _ (by omega)]; exact e4 k hk)
  rw [hb, k_c1_some, hc, k_c1_some] at el
  have hrun : p_X6_runCards N (nI 0) (nI 1) (nI 0) (nI 30) (nI 99) (nI 99) c tl ta tt tp = some (nI 0, cc, nI (Nat.lcm 24 23), nI (9801 % Nat.lcm 24 23), nI 9801, tp') := by
    unfold p_X6_runCards
    rw [ep, k_c1_some, if_pos (show nI 0 = (0 : Int32) from rfl), s_outside_t (show q_in (nI 99) (1 : Int32).toInt (99 : Int32).toInt from by unfold q_in; decide)]
    simp (disch := omega) only [q_lit, nI_add, pk_mul, k_let_eq, k_c1_some, k_c2_some, k_c3_some, k_c4_some, k_c5_some, k_c6_some, k_c7_some, k_c8_some, k_c9_some, k_c10_some, k_c11_some, k_c12_some, k_c13_some, k_c14_some, k_c15_some, k_c16_some, k_c17_some, k_ld_nI, k_st_nI, k_nz_nI, k_bit0, k_bit1, pk_rem, pk_sub, q_nn, q_np, q_pn, q_lnp, q_lpn, q_enp, q_epn, nI_leI, nI_ltI, nI_eq, if_pos, if_neg, ↓reduceIte, et, s_setting, c6, em, p_X5_begin]
    exact el
  have hST : ST cc 8 := by
    rcases o_run (N := N) (by omega) 0 0 0 0 0 hR (nI 0) (nI 1) (nI 0) (nI 30) (nI 99) (nI 99) tl ta tt tp with ⟨e, tl', ta', tt', tp'', q1, q2, q3, -⟩ | ⟨v, c', w', tl', ta', tt', tp'', hv, q3, -, -, hR', hc0⟩
    · rw [hrun] at q3
      have q4 := (Prod.mk.inj (Option.some.inj q3)).1
      rw [q_pn (by omega) (by omega)] at q4
      omega
    · rw [hrun] at q3
      have q4 := (Prod.mk.inj (Prod.mk.inj (Option.some.inj q3)).2).1
      rw [q4]
      exact ⟨⟨w', hR'⟩, hc0.trans h0, by omega⟩
  refine ⟨cc, _, _, _, _, hrun, hST, ?_, ?_, ?_, ?_, ?_, ?_, ?_⟩
  · rw [hc5 _ (by omega), hb5 _ (by omega)]; exact hi5
  · rw [hc5 _ (by omega)]; exact hb3
  · rw [hc5 _ (by omega)]; exact hb4 23 (by omega)
  · exact hc4 22 (by omega)
  · rw [hc5 _ (by omega), hb5 _ (by omega), lo _ (by omega)]; exact f2
  · rw [hc5 _ (by omega)]; exact hb1
  · exact hc1
theorem limits_end {c : Nat → Int32} (h : LU c 8) (hs ss pp rn tp : Nat → Int32) (sf ra rk rt tl ta tt : Int32) (K : Int32 → (Nat → Int32) → Int32 → Int32 → (Nat → Int32) → Int32 → (Nat → Int32) → Int32 → (Nat → Int32) → Int32 → Int32 → Int32 → (Nat → Int32) → Int32 → Int32 → Int32 → (Nat → Int32) → Option Int32) :
    b_L_limits_10 20000 K (nI 8) c (nI 1) (nI 6) hs sf ss (nI 0) pp ra rk rt rn tl ta tt tp = some 1 := by
  obtain ⟨hS, ⟨a1, a2, a3, a4, a5, a6, a7, a8⟩, hr⟩ := h
  obtain ⟨-, h0, h8⟩ := id hS
  obtain ⟨d1, d2, d3, d4⟩ := hr 0 (by omega)
  obtain ⟨e1, e2, e3, e4⟩ := hr 1 (by omega)
  obtain ⟨f1, -, -, f4⟩ := hr 7 (by omega)
  obtain ⟨g1, -, -, g4⟩ := hr 3 (by omega)
  have hPU : PU c 0 1 24 23 := PU_of (by omega) (by omega) (by omega) (by omega) (by omega) (by omega) d1 e1 d4 e4
  have hPV : PU c 7 3 17 21 := PU_of (by omega) (by omega) (by omega) (by omega) (by omega) (by omega) f1 g1 f4 g4
  have e552 : Nat.lcm 24 23 = 552 := by decide +kernel
  have p1 := l_prep (N := 20000) (show 1 < 7 by omega) c hs (nI 6)
  have p2 := l_prep2 (N := 20000) (show 1 < 7 by omega) c hs (nI 6)
  generalize va_cpy c hs 0 (1 * 225) 225 = X at p1 p2
  have r1 : p_X6_roller 20000 (nI 2) (nI 0) c (nI 1) (nI 6) hs = some (-nI 4, c, nI 1, nI 6, X) := l_roller p1 (by omega) (by omega) (by
    unfold p_X3_addRoller; rw [s_outside_t (show q_in (nI 2) (2 : Int32).toInt (24 : Int32).toInt from by unfold q_in; decide), s_outside_t (show q_in (nI 0) (-9 : Int32).toInt (9 : Int32).toInt from by unfold q_in; decide)]; simp (disch := omega) only [q_lit, nI_add, pk_mul, k_let_eq, k_c1_some, k_c2_some, k_c3_some, k_c4_some, k_c5_some, k_c6_some, k_c7_some, k_c8_some, k_c9_some, k_c10_some, k_c11_some, k_c12_some, k_c13_some, k_c14_some, k_c15_some, k_c16_some, k_c17_some, k_ld_nI, k_st_nI, k_nz_nI, k_bit0, k_bit1, pk_rem, pk_sub, q_nn, q_np, q_pn, q_lnp, q_lpn, q_enp, q_epn, nI_leI, nI_ltI, nI_eq, if_pos, if_neg, ↓reduceIte, s_cell, h0])
  have r2 : p_X6_roller 20000 (nI 1) (nI 0) c (nI 1) (nI 6) X = some (-nI 2, c, nI 1, nI 6, X) := l_roller p2 (by omega) (by omega) (l_rol1 (by unfold q_in; decide))
  obtain ⟨tl1, tp1, r3⟩ := lm_pair0 h8 h0 hPU (by omega) (by omega) (by omega) 23 (by omega) tl ta tt tp
  obtain ⟨tl2, tp2, r4⟩ := lm_pair1 h8 h0 hPU (by omega) (by omega) (by omega) 23 (by omega) tl1 ta tt tp1
  obtain ⟨tl3, tp3, r5⟩ := lm_gap h8 h0 a6 hPV (by omega) (by omega) (by omega) 9 (by omega) tl2 ta tt tp2
  have r6 : p_X6_leastGap 20000 (nI 7) (nI 3) (nI 24) c tl3 ta tt tp3 = some (-nI 2, tl3, tp3) := l_least (by omega) (by omega) (pe_4 h8 h0 (by omega) (by omega) (by omega) (by unfold q_in; decide))
  obtain ⟨tl4, ta4, tt4, tp4, r7⟩ := lm_thick (N := 20000) (v := 17) (by omega) h8 h0 a2 (by omega) a6 a7 hPU (by omega) (by omega) (by omega) e552 (by decide +kernel) (by omega) tl3 ta tt tp3
  have hS2 : ST (upd (upd c 1 (nI 30)) 2 (nI 30)) 8 ∧ p_X3_changeCard 20000 (nI 30) (nI 30) c = some (nI 5, upd (upd c 1 (nI 30)) 2 (nI 30)) := by
    obtain ⟨⟨w, hR⟩, -⟩ := hS
    rcases o_card (N := 20000) hR (nI 30) (nI 30) with ⟨-, q | q⟩ | ⟨v, hv, -, -, hw4, h1, hR'⟩
    · exact absurd (by unfold q_in; decide) q
    · exact absurd (by unfold q_in; decide) q
    · refine ⟨⟨⟨_, hR'⟩, by rw [q_un (by omega), q_un (by omega)]; exact h0, by omega⟩, ?_⟩
      unfold p_X3_changeCard
      rw [s_outside_t (show q_in (nI 30) (1 : Int32).toInt (30 : Int32).toInt from by unfold q_in; decide), s_outside_t (show q_in (nI 30) (0 : Int32).toInt (30 : Int32).toInt from by unfold q_in; decide)]
      simp (disch := omega) only [q_lit, nI_add, pk_mul, k_let_eq, k_c1_some, k_c2_some, k_c3_some, k_c4_some, k_c5_some, k_c6_some, k_c7_some, k_c8_some, k_c9_some, k_c10_some, k_c11_some, k_c12_some, k_c13_some, k_c14_some, k_c15_some, k_c16_some, k_c17_some, k_ld_nI, k_st_nI, k_nz_nI, k_bit0, k_bit1, pk_rem, pk_sub, q_nn, q_np, q_pn, q_lnp, q_lpn, q_enp, q_epn, nI_leI, nI_ltI, nI_eq, if_pos, if_neg, ↓reduceIte, s_cell, s_change, a1]
  obtain ⟨hS2, ec⟩ := hS2
  have hi : ∀ i, 3 ≤ i → upd (upd c 1 (nI 30)) 2 (nI 30) i = c i := fun i hi => by rw [q_un (by omega), q_un (by omega)]
  have hi1 : upd (upd c 1 (nI 30)) 2 (nI 30) 1 = nI 30 := by rw [q_un (by omega), q_us]
  have hi2 : upd (upd c 1 (nI 30)) 2 (nI 30) 2 = nI 30 := by rw [q_us]
  generalize upd (upd c 1 (nI 30)) 2 (nI 30) = c2 at hS2 ec hi hi1 hi2
  have r8 : p_X6_card 20000 (nI 30) (nI 30) c (nI 1) (nI 6) X = some (nI 5, c2, nI 2, nI 6, X) := by
    unfold p_X6_card
    rw [p2, k_c1_some, ec, k_c2_some, s_rec_pos (by omega) (by omega) (by omega), k_c3_some]
    rfl
  have h0' := hS2.2.1
  have hPU2 : PU c2 0 1 24 23 := PU_of (by omega) (by omega) (by omega) (by omega) (by omega) (by omega) (by rw [hi _ (by omega)]; exact d1) (by rw [hi _ (by omega)]; exact e1) (fun k hk => by rw [hi _ (by omega)]; exact d4 k hk) (fun k hk => by rw [hi _ (by omega)]; exact e4 k hk)
  obtain ⟨tl5, ta5, tt5, tp5, r9⟩ := lm_thick (N := 20000) (v := 30) (by omega) h8 h0' hi2 (by omega) (by rw [hi _ (by omega)]; exact a6) (by rw [hi _ (by omega)]; exact a7) hPU2 (by omega) (by omega) (by omega) e552 (by decide +kernel) (by omega) tl4 ta4 tt4 tp4
  obtain ⟨c3, tl6, ta6, tt6, tp6, rr, hS3, b5, b11, b35, b61, b64, b9, b36⟩ := lm_run (N := 20000) (by omega) hS2 hi1 hi2 (by rw [hi _ (by omega)]; exact a5) (by rw [hi _ (by omega)]; exact a6) (by rw [hi _ (by omega)]; exact a7) (by rw [hi _ (by omega)]; exact a8) (fun r hr8 => by
    obtain ⟨q1, q2, q3, q4⟩ := hr r hr8
    exact ⟨by rw [hi _ (by omega)]; exact q1, by rw [hi _ (by omega)]; exact q2, by rw [hi _ (by omega)]; exact q3, fun k hk => by rw [hi _ (by omega)]; exact q4 k hk⟩) tl5 ta5 tt5 tp5
  obtain ⟨⟨w3, hR3⟩, h03, -⟩ := id hS3
  have r10 : p_X6_run 20000 (nI 0) (nI 1) (nI 0) (nI 30) (nI 99) (nI 99) c2 (nI 2) (nI 6) X tl5 ta5 tt5 tp5 = some (nI 0, c3, nI 3, nI 6, va_cpy c2 X 0 (2 * 225) 225, tl6, ta6, tt6, tp6) := by
    unfold p_X6_run
    rw [l_prep (by omega), k_c1_some, rr, k_c6_some, s_rec_pos (by omega) (by omega) (by omega), k_c3_some]
    rfl
  have r11 : p_X6_of 20000 (nI 0) (nI 6) c3 = some (nI 1) := by
    unfold p_X6_of
    rw [s_has_t (by omega) h03 (by omega)]
    simp (disch := omega) only [q_lit, nI_add, pk_mul, k_let_eq, k_c1_some, k_c2_some, k_c3_some, k_c4_some, k_c5_some, k_c6_some, k_c7_some, k_c8_some, k_c9_some, k_c10_some, k_c11_some, k_c12_some, k_c13_some, k_c14_some, k_c15_some, k_c16_some, k_c17_some, k_ld_nI, k_st_nI, k_nz_nI, k_bit0, k_bit1, pk_rem, pk_sub, q_nn, q_np, q_pn, q_lnp, q_lpn, q_enp, q_epn, nI_leI, nI_ltI, nI_eq, if_pos, if_neg, ↓reduceIte, s_worn, b11]
  have r12 : p_X6_tooth 20000 (nI 0) (nI 23) c3 = some (nI 17) := by
    unfold p_X6_tooth
    rw [s_hasT_t (t := 24) (by omega) h03 (by omega) (by omega) b9 (by omega)]
    simp (disch := omega) only [q_lit, nI_add, pk_mul, k_let_eq, k_c1_some, k_c2_some, k_c3_some, k_c4_some, k_c5_some, k_c6_some, k_c7_some, k_c8_some, k_c9_some, k_c10_some, k_c11_some, k_c12_some, k_c13_some, k_c14_some, k_c15_some, k_c16_some, k_c17_some, k_ld_nI, k_st_nI, k_nz_nI, k_bit0, k_bit1, pk_rem, pk_sub, q_nn, q_np, q_pn, q_lnp, q_lpn, q_enp, q_epn, nI_leI, nI_ltI, nI_eq, if_pos, if_neg, ↓reduceIte, s_height, b35]
  have r13 : p_X6_tooth 20000 (nI 1) (nI 22) c3 = some (nI 17) := by
    unfold p_X6_tooth
    rw [s_hasT_t (t := 23) (by omega) h03 (by omega) (by omega) b36 (by omega)]
    simp (disch := omega) only [q_lit, nI_add, pk_mul, k_let_eq, k_c1_some, k_c2_some, k_c3_some, k_c4_some, k_c5_some, k_c6_some, k_c7_some, k_c8_some, k_c9_some, k_c10_some, k_c11_some, k_c12_some, k_c13_some, k_c14_some, k_c15_some, k_c16_some, k_c17_some, k_ld_nI, k_st_nI, k_nz_nI, k_bit0, k_bit1, pk_rem, pk_sub, q_nn, q_np, q_pn, q_lnp, q_lpn, q_enp, q_epn, nI_leI, nI_ltI, nI_eq, if_pos, if_neg, ↓reduceIte, s_height, b61]
  have r14 : p_X6_of 20000 (nI 2) (nI 5) c3 = some (nI 0) := by
    unfold p_X6_of
    rw [s_has_t (by omega) h03 (by omega)]
    simp (disch := omega) only [q_lit, nI_add, pk_mul, k_let_eq, k_c1_some, k_c2_some, k_c3_some, k_c4_some, k_c5_some, k_c6_some, k_c7_some, k_c8_some, k_c9_some, k_c10_some, k_c11_some, k_c12_some, k_c13_some, k_c14_some, k_c15_some, k_c16_some, k_c17_some, k_ld_nI, k_st_nI, k_nz_nI, k_bit0, k_bit1, pk_rem, pk_sub, q_nn, q_np, q_pn, q_lnp, q_lpn, q_enp, q_epn, nI_leI, nI_ltI, nI_eq, if_pos, if_neg, ↓reduceIte, s_made, b64]
  unfold b_L_limits_10
  simp only [q_lit]
  rw [if_pos (by decide), r1, k_c5_some, if_pos rfl, r2, k_c5_some, if_pos rfl, r3, k_c3_some, if_pos (by rw [e552]), r4, k_c3_some, if_pos rfl, r5, k_c3_some, if_pos rfl, r6, k_c3_some, if_pos rfl, r7, k_c5_some, if_pos rfl, r8, k_c5_some, if_pos rfl, r9, k_c5_some, if_pos rfl, r10, k_c9_some, if_pos rfl, l_count0 (by omega), k_c1_some, if_pos b5, r11, k_c1_some, if_pos rfl, r12, k_c1_some, if_pos rfl, r13, k_c1_some, if_pos rfl, r14, k_c1_some, if_pos rfl, l_count10, k_c1_some, if_pos rfl, refused_ok hR3 h03 (by omega) (by omega) (by omega), k_c17_some, if_neg (by decide)]
theorem limits_ok : b_L_limits_8 20000 (upd (upd (upd (upd (upd (fun _ => 0) 1 (5 : Int32)) 2 (5 : Int32)) 6 (6 : Int32)) 7 (4 : Int32)) 8 (20 : Int32)) (0 : Int32) (0 : Int32) (fun _ => 0) (0 : Int32) (fun _ => 0) (0 : Int32) (fun _ => 0) (0 : Int32) (0 : Int32) (0 : Int32) (fun _ => 0) (0 : Int32) (0 : Int32) (0 : Int32) (fun _ => 0) = some 1 := by
  have key : ∀ (n k : Nat) (c hs : Nat → Int32), k ≤ 8 → 8 - k < n → LU c k → f_L_limits_10 20000 n (nI k) c (nI (k % 7)) (nI (min k 6)) hs (nI 0) (fun _ => nI 0) (nI 0) (fun _ => nI 0) (nI 0) (nI 0) (nI 0) (fun _ => nI 0) (nI 0) (nI 0) (nI 0) (fun _ => nI 0) = some 1 := by
    intro n
    induction n with
    | zero => intro k c hs h1 h2; omega
    | succ n ih =>
      intro k c hs h1 h2 h
      show b_L_limits_10 20000 (f_L_limits_10 20000 n) (nI k) c (nI (k % 7)) (nI (min k 6)) hs (nI 0) (fun _ => nI 0) (nI 0) (fun _ => nI 0) (nI 0) (nI 0) (nI 0) (fun _ => nI 0) (nI 0) (nI 0) (nI 0) (fun _ => nI 0) = some 1
      by_cases hk : k = 8
      · subst hk
        exact limits_end h hs _ _ _ _ _ _ _ _ _ _ _ _
      · obtain ⟨c', e1, h'⟩ := LU_step h (by omega)
        have hr : p_X6_roller 20000 (nI (24 - k)) (nI 9) c (nI (k % 7)) (nI (min k 6)) hs = some (nI k, c', nI ((k + 1) % 7), nI (min (k + 1) 6), va_cpy c hs 0 (k % 7 * 225) 225) := by
          unfold p_X6_roller
          rw [l_prep (by omega), k_c1_some, e1, k_c2_some, s_rec_pos (by omega) (by omega) (by omega), k_c3_some, show (if k % 7 = 6 then 0 else k % 7 + 1) = (k + 1) % 7 by split <;> omega, show (if min k 6 = 6 then 6 else min k 6 + 1) = min (k + 1) 6 by split <;> omega]
        unfold b_L_limits_10
        simp only [q_lit]
        rw [if_neg (by rw [nI_leI (by omega) (by omega)]; omega), pk_sub (by omega), hr, k_c5_some, if_pos rfl, k_let_eq, nI_add]
        exact ih (k + 1) c' _ (by omega) (by omega) h'
  unfold b_L_limits_8
  exact key 20000 0 c_new (fun _ => nI 0) (by omega) (by omega) LU_new
