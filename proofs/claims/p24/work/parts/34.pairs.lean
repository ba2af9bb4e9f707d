-- pairs: the reference's presses, and what both programs answer of a pair
def PC (c w : Nat → Int32) (u l a b : Nat) : Prop := (u < 8 ∧ l < 8) ∧ (2 ≤ a ∧ a ≤ 24 ∧ c (9 + 27 * u) = nI a ∧ w (9 + 27 * u) = nI a) ∧ (2 ≤ b ∧ b ≤ 24 ∧ c (9 + 27 * l) = nI b ∧ w (9 + 27 * l) = nI b) ∧ (∀ k, k < a → c (12 + 27 * u + k) = w (12 + 27 * u + k) ∧ -9 ≤ (w (12 + 27 * u + k)).toInt ∧ (w (12 + 27 * u + k)).toInt ≤ 9) ∧ (∀ k, k < b → c (12 + 27 * l + k) = w (12 + 27 * l + k) ∧ -9 ≤ (w (12 + 27 * l + k)).toInt ∧ (w (12 + 27 * l + k)).toInt ≤ 9)
theorem PC_of {c w : Nat → Int32} {m u l : Nat} (h : SRm c w m) (hu : u < m) (hl : l < m) : ∃ a b, PC c w u l a b := by
  obtain ⟨h8, -, -, hr⟩ := h
  obtain ⟨a, a1, a2, a3, a4, -, -, a5⟩ := hr u hu
  obtain ⟨b, b1, b2, b3, b4, -, -, b5⟩ := hr l hl
  exact ⟨a, b, ⟨by omega, by omega⟩, ⟨a1, a2, a3, a4⟩, ⟨b1, b2, b3, b4⟩, a5, b5⟩
def sp_q (w : Nat → Int32) (u l o a b s : Nat) : Int := -(w (12 + 27 * u + s % a)).toInt - (w (12 + 27 * l + (s + o) % b)).toInt
theorem sp_q_bd {c w : Nat → Int32} {u l a b : Nat} (h : PC c w u l a b) (o s : Nat) : -18 ≤ sp_q w u l o a b s ∧ sp_q w u l o a b s ≤ 18 := by
  obtain ⟨-, ⟨a1, -⟩, ⟨b1, -⟩, ha, hb⟩ := h
  have h1 := ha (s % a) (Nat.mod_lt _ (by omega))
  have h2 := hb ((s + o) % b) (Nat.mod_lt _ (by omega))
  unfold sp_q
  omega
theorem sp_pr_int {c w : Nat → Int32} {u l a b g : Nat} (h : PC c w u l a b) (hg : g ≤ 30) (o s : Nat) : (sp_pr c u l o g a b s).toInt = (g : Int) + sp_q w u l o a b s := by
  obtain ⟨-, ⟨a1, -⟩, ⟨b1, -⟩, ha, hb⟩ := h
  have h1 := ha (s % a) (Nat.mod_lt _ (by omega))
  have h2 := hb ((s + o) % b) (Nat.mod_lt _ (by omega))
  unfold sp_pr sp_q
  rw [h1.1, h2.1]
  have e1 : (nI g - w (12 + 27 * u + s % a)).toInt = (g : Int) - (w (12 + 27 * u + s % a)).toInt := by
    rw [q_sub (by rw [nI_toInt (by omega)]; omega) (by rw [nI_toInt (by omega)]; omega), nI_toInt (by omega)]
  rw [q_sub (by rw [e1]; omega) (by rw [e1]; omega), e1]
  omega
theorem q_T {a b : Nat} (ha : 2 ≤ a) (ha2 : a ≤ 24) (hb : 2 ≤ b) (hb2 : b ≤ 24) : 0 < Nat.lcm a b ∧ Nat.lcm a b ≤ 552 := ⟨Nat.lcm_pos (by omega) (by omega), q_lcm_le a (by omega) b (by omega)⟩
theorem s_layQ {N u l o g a b : Nat} {c w : Nat → Int32} (hN : 20000 ≤ N) (tl vta vtt : Int32) (tp : Nat → Int32) (h : PC c w u l a b) (ho : o ≤ 23) (hg : g ≤ 30) : ∃ tp', p_X5_lay N (nI u) (nI l) (nI o) (nI g) c tl vta vtt tp = some (nI (Nat.lcm a b), tp') ∧ PQ tp' (fun s => (g : Int) + sp_q w u l o a b s) (Nat.lcm a b) := by
  obtain ⟨⟨hu, hl⟩, ⟨a1, a2, a3, a4⟩, ⟨b1, b2, b3, b4⟩, -, -⟩ := id h
  obtain ⟨tp', e, h1⟩ := s_lay hN tl vta vtt tp hu hl a3 b3 a1 a2 b1 b2 ho (g := g)
  have hT := q_T a1 a2 b1 b2
  refine ⟨tp', e, hT.1, hT.2, fun s hs => ?_⟩
  have hb := sp_q_bd h o s
  rw [h1 s hs, sp_pr_int h hg]
  refine ⟨rfl, ?_, ?_⟩ <;> (dsimp only; omega)
theorem s_rpress {N u l o a b s : Nat} {c w : Nat → Int32} (us up ue ut um : Int32) (h : PC c w u l a b) (ho : o ≤ 23) (hs : s ≤ 100000) : ∃ v, p_X7_press N (nI u) (nI l) (nI o) (nI s) us up ue ut um w = some v ∧ v.toInt = sp_q w u l o a b s := by
  obtain ⟨⟨hu, hl⟩, ⟨a1, a2, a3, a4⟩, ⟨b1, b2, b3, b4⟩, ha, hb⟩ := id h
  have m1 := Nat.mod_lt s (show 0 < a by omega)
  have m2 := Nat.mod_lt (s + o) (show 0 < b by omega)
  have h1 := ha (s % a) m1
  have h2 := hb ((s + o) % b) m2
  unfold p_X7_press
  simp only [q_lit, nI_add]
  rw [s_ofR hu (by omega), k_c1_some, Nat.add_zero, a4, k_nz_nI (by omega) (by omega), pk_rem (by omega) (by omega) (by omega), nI_add, s_ofR hu (by omega), k_c1_some, s_ofR hl (by omega), k_c1_some, Nat.add_zero, b4, k_nz_nI (by omega) (by omega), pk_rem (by omega) (by omega) (by omega), nI_add, s_ofR hl (by omega), k_c1_some, show 9 + 27 * u + (3 + s % a) = 12 + 27 * u + s % a by omega, show 9 + 27 * l + (3 + (s + o) % b) = 12 + 27 * l + (s + o) % b by omega]
  refine ⟨_, rfl, ?_⟩
  have e := q_ng (a := w (12 + 27 * u + s % a)) (by omega)
  rw [q_sub (by rw [e]; omega) (by rw [e]; omega), e]
  rfl
-- against
def sp_ans2 (Q : Nat → Int) : Option Nat → Int32
  | none => -nI 6
  | some s => nI (4 * s + if Q s < 1 then 1 else 2)
theorem s_ag_loop {N u l o g a b σ : Nat} {c w : Nat → Int32} (us up ue ut um : Int32) (h : PC c w u l a b) (ho : o ≤ 23) (hg : g ≤ 30) (hσ : σ ≤ 30) (hw : w 0 = nI σ) : ∀ (n i : Nat) (x : Int32), i ≤ Nat.lcm a b → Nat.lcm a b - i < n → x.toInt = sp_q w u l o a b (sp_ah (Nat.lcm a b) i) →
    f_X7_against_24 N n (nI u) (nI l) (nI o) (nI g) (nI (Nat.lcm a b)) x (nI i) us up ue ut um w = some (sp_ans2 (fun s => (g : Int) + sp_q w u l o a b s) (sp_ff (sp_bad (fun s => (g : Int) + sp_q w u l o a b s) (Nat.lcm a b) σ) (Nat.lcm a b - i) i)) := by
  obtain ⟨-, ⟨a1, a2, -, -⟩, ⟨b1, b2, -, -⟩, -, -⟩ := id h
  obtain ⟨T0, T1⟩ := q_T a1 a2 b1 b2
  intro n
  induction n with
  | zero => intro i x h1 h2; omega
  | succ n ih =>
    intro i x h1 h2 hx
    show b_X7_against_24 N (f_X7_against_24 N n) (nI u) (nI l) (nI o) (nI g) (nI (Nat.lcm a b)) x (nI i) us up ue ut um w = _
    unfold b_X7_against_24
    by_cases hi : i = Nat.lcm a b
    · rw [if_pos (by rw [nI_leI (by omega) (by omega)]; omega), hi, Nat.sub_self]
      rfl
    · rw [if_neg (by rw [nI_leI (by omega) (by omega)]; omega), show Nat.lcm a b - i = (Nat.lcm a b - (i + 1)) + 1 by omega]
      unfold sp_ff
      obtain ⟨v, ev, hv⟩ := s_rpress (N := N) us up ue ut um h ho (show i ≤ 100000 by omega)
      have bd := sp_q_bd h o i
      have bd2 := sp_q_bd h o (sp_ah (Nat.lcm a b) i)
      have eg : (v + nI g).toInt = (g : Int) + sp_q w u l o a b i := by
        rw [q_add (by rw [hv, nI_toInt (by omega)]; omega) (by rw [hv, nI_toInt (by omega)]; omega), hv, nI_toInt (by omega)]; omega
      rw [ev, k_c1_some]
      simp only [q_lit]
      by_cases hp : (g : Int) + sp_q w u l o a b i < 1
      · rw [if_neg (by rw [Int32.le_iff_toInt_le, nI_toInt (by omega), eg]; omega), if_pos (by unfold sp_bad; rw [decide_eq_true hp]; rfl)]
        simp only [pk_mul, nI_add]
        show _ = some (nI (4 * i + if (g : Int) + sp_q w u l o a b i < 1 then 1 else 2))
        rw [if_pos hp]
      · rw [if_pos (by rw [Int32.le_iff_toInt_le, nI_toInt (by omega), eg]; omega)]
        have e : sp_bad (fun s => (g : Int) + sp_q w u l o a b s) (Nat.lcm a b) σ i = sp_rough (fun s => (g : Int) + sp_q w u l o a b s) (Nat.lcm a b) σ i := by unfold sp_bad; rw [decide_eq_false hp]; rfl
        rw [e]
        obtain ⟨z, ez, hz⟩ := s_apart (N := N) hv hx (by omega) (by omega) (by omega) (by omega)
        rw [ez, k_c1_some, k_ld_nI (by omega) (by omega), hw]
        by_cases hr : sp_rough (fun s => (g : Int) + sp_q w u l o a b s) (Nat.lcm a b) σ i = true
        · rw [hr, if_pos rfl, if_neg]
          · simp only [pk_mul, nI_add]
            show _ = some (nI (4 * i + if (g : Int) + sp_q w u l o a b i < 1 then 1 else 2))
            rw [if_neg hp]
          · rw [Int32.le_iff_toInt_le, nI_toInt (by omega), hz]
            have h1 := of_decide_eq_true hr
            simp only at h1
            split <;> omega
        · rw [if_neg hr, if_pos]
          · rw [k_let_eq, nI_add]
            refine ih (i + 1) v (by omega) (by omega) ?_
            rw [hv, show sp_ah (Nat.lcm a b) (i + 1) = i by unfold sp_ah; rw [if_pos (by omega)]; omega]
          · rw [Int32.le_iff_toInt_le, nI_toInt (by omega), hz]
            have h1 : ¬ _ := fun q => hr (decide_eq_true q)
            simp only at h1
            split <;> omega
theorem s_ag {N u l o g a b σ : Nat} {c w : Nat → Int32} (hN : 20000 ≤ N) (us up ue ut um : Int32) (h : PC c w u l a b) (ho : o ≤ 23) (hg : g ≤ 30) (hσ : σ ≤ 30) (hw : w 0 = nI σ) :
    p_X7_against N (nI u) (nI l) (nI o) (nI g) us up ue ut um w = some (sp_ans2 (fun s => (g : Int) + sp_q w u l o a b s) (sp_ff (sp_bad (fun s => (g : Int) + sp_q w u l o a b s) (Nat.lcm a b) σ) (Nat.lcm a b) 0)) := by
  obtain ⟨⟨hu, hl⟩, ⟨a1, a2, a3, a4⟩, ⟨b1, b2, b3, b4⟩, -, -⟩ := id h
  obtain ⟨T0, T1⟩ := q_T a1 a2 b1 b2
  unfold p_X7_against
  simp only [q_lit]
  rw [s_turn hN us up ue ut um hu hl a4 b4 a1 a2 b1 b2, k_c1_some, pk_sub (by omega)]
  obtain ⟨v, ev, hv⟩ := s_rpress (N := N) us up ue ut um h ho (show Nat.lcm a b - 1 ≤ 100000 by omega)
  rw [ev, k_c1_some]
  refine s_ag_loop us up ue ut um h ho hg hσ hw N 0 v (by omega) (by omega) ?_
  rw [hv]
  rfl
-- the least and the greatest press
theorem s_ex_loop {N u l o a b : Nat} {c w : Nat → Int32} (us up ue ut um : Int32) (h : PC c w u l a b) (ho : o ≤ 23) (k : Nat) (hk : k ≤ 1) : ∀ (n i : Nat) (v : Int32), i ≤ Nat.lcm a b → Nat.lcm a b - i < n → (if k = 1 then is_min (sp_q w u l o a b) i v.toInt else is_max (sp_q w u l o a b) i v.toInt) →
    ∃ v', f_X7_extreme_21 N n (nI u) (nI l) (nI o) (nI k) (nI (Nat.lcm a b)) v (nI i) us up ue ut um w = some v' ∧ (if k = 1 then is_min (sp_q w u l o a b) (Nat.lcm a b) v'.toInt else is_max (sp_q w u l o a b) (Nat.lcm a b) v'.toInt) := by
  obtain ⟨-, ⟨a1, a2, -, -⟩, ⟨b1, b2, -, -⟩, -, -⟩ := id h
  obtain ⟨T0, T1⟩ := q_T a1 a2 b1 b2
  intro n
  induction n with
  | zero => intro i x h1 h2; omega
  | succ n ih =>
    intro i x h1 h2 hx
    show ∃ v', b_X7_extreme_21 N (f_X7_extreme_21 N n) (nI u) (nI l) (nI o) (nI k) (nI (Nat.lcm a b)) x (nI i) us up ue ut um w = some v' ∧ _
    unfold b_X7_extreme_21
    by_cases hi : i = Nat.lcm a b
    · rw [if_pos (by rw [nI_leI (by omega) (by omega)]; omega)]
      rw [hi] at hx
      exact ⟨x, rfl, hx⟩
    · rw [if_neg (by rw [nI_leI (by omega) (by omega)]; omega)]
      obtain ⟨v, ev, hv⟩ := s_rpress (N := N) us up ue ut um h ho (show i ≤ 100000 by omega)
      rw [ev, k_c1_some]
      simp only [q_lit, k_let_eq, nI_add]
      by_cases hk1 : k = 1
      · subst hk1
        rw [if_pos rfl] at hx
        have hx2 := is_min_next hx
        by_cases hc : x ≤ v
        · rw [if_pos hc, if_neg (by decide)]
          refine ih (i + 1) x (by omega) (by omega) ?_
          rw [Int32.le_iff_toInt_le, hv] at hc
          rw [if_neg (by omega)] at hx2
          rw [if_pos rfl]; exact hx2
        · rw [if_neg hc, if_pos rfl]
          refine ih (i + 1) v (by omega) (by omega) ?_
          rw [Int32.le_iff_toInt_le, hv] at hc
          rw [if_pos (by omega)] at hx2
          rw [if_pos rfl, hv]; exact hx2
      · have hk0 : k = 0 := by omega
        subst hk0
        rw [if_neg (by decide)] at hx
        have hx2 := is_max_next hx
        by_cases hc : x ≤ v
        · rw [if_pos hc, if_pos rfl]
          refine ih (i + 1) v (by omega) (by omega) ?_
          rw [Int32.le_iff_toInt_le, hv] at hc
          rw [if_neg (by decide), hv]
          by_cases hq : x.toInt < sp_q w u l o a b i
          · rw [if_pos hq] at hx2; exact hx2
          · rw [if_neg hq, show x.toInt = sp_q w u l o a b i by omega] at hx2; exact hx2
        · rw [if_neg hc, if_neg (by decide)]
          refine ih (i + 1) x (by omega) (by omega) ?_
          rw [Int32.le_iff_toInt_le, hv] at hc
          rw [if_neg (by omega)] at hx2
          rw [if_neg (by decide)]; exact hx2
theorem s_ex {N u l o a b : Nat} {c w : Nat → Int32} (hN : 20000 ≤ N) (us up ue ut um : Int32) (h : PC c w u l a b) (ho : o ≤ 23) (k : Nat) (hk : k ≤ 1) :
    ∃ v', p_X7_extreme N (nI u) (nI l) (nI o) (nI k) us up ue ut um w = some v' ∧ (if k = 1 then is_min (sp_q w u l o a b) (Nat.lcm a b) v'.toInt else is_max (sp_q w u l o a b) (Nat.lcm a b) v'.toInt) := by
  obtain ⟨⟨hu, hl⟩, ⟨a1, a2, a3, a4⟩, ⟨b1, b2, b3, b4⟩, -, -⟩ := id h
  obtain ⟨T0, T1⟩ := q_T a1 a2 b1 b2
  unfold p_X7_extreme
  simp only [q_lit]
  rw [s_turn hN us up ue ut um hu hl a4 b4 a1 a2 b1 b2, k_c1_some]
  obtain ⟨v, ev, hv⟩ := s_rpress (N := N) us up ue ut um h ho (show 0 ≤ 100000 by omega)
  rw [ev, k_c1_some]
  refine s_ex_loop us up ue ut um h ho k hk N 1 v (by omega) (by omega) ?_
  have e : is_min (sp_q w u l o a b) 1 v.toInt ∧ is_max (sp_q w u l o a b) 1 v.toInt := by
    rw [hv]
    refine ⟨⟨fun s hs => ?_, 0, by omega, rfl⟩, ⟨fun s hs => ?_, 0, by omega, rfl⟩⟩ <;> rw [show s = 0 by omega] <;> exact Int.le_refl _
  split
  · exact e.1
  · exact e.2
