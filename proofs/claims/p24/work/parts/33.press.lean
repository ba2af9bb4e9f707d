-- what is found in the presses of a turn: the class over its row of presses, the reference step by step
def sp_ah (T s : Nat) : Nat := if 0 < s then s - 1 else T - 1
def sp_rough (Q : Nat → Int) (T σ s : Nat) : Bool := decide ((σ : Int) < Q s - Q (sp_ah T s) ∨ (σ : Int) < Q (sp_ah T s) - Q s)
def sp_bad (Q : Nat → Int) (T σ s : Nat) : Bool := decide (Q s < 1) || sp_rough Q T σ s
def sp_ff (p : Nat → Bool) : Nat → Nat → Option Nat
  | 0, _ => none
  | n + 1, i => if p i then some i else sp_ff p n (i + 1)
def sp_ans : Option Nat → Int32
  | none => -nI 6
  | some s => nI s
theorem sp_ff_none {p : Nat → Bool} : ∀ (n i : Nat), sp_ff p n i = none ↔ ∀ s, i ≤ s → s < i + n → p s = false
  | 0, i => ⟨fun _ s h1 h2 => by omega, fun _ => rfl⟩
  | n + 1, i => by
    unfold sp_ff
    by_cases h : p i = true
    · rw [if_pos h]
      refine ⟨fun q => (by cases q), fun q => ?_⟩
      have := q i (by omega) (by omega)
      rw [h] at this; cases this
    · rw [if_neg h, sp_ff_none n (i + 1)]
      refine ⟨fun q s h1 h2 => ?_, fun q s h1 h2 => q s (by omega) (by omega)⟩
      by_cases hs : s = i
      · subst hs; exact Bool.not_eq_true _ ▸ h
      · exact q s (by omega) (by omega)
theorem sp_ff_some {p : Nat → Bool} : ∀ (n i s : Nat), sp_ff p n i = some s → i ≤ s ∧ s < i + n ∧ p s = true
  | 0, i, s, h => by cases h
  | n + 1, i, s, h => by
    unfold sp_ff at h
    by_cases hp : p i = true
    · rw [if_pos hp] at h; cases h; exact ⟨by omega, by omega, hp⟩
    · rw [if_neg hp] at h
      have := sp_ff_some n (i + 1) s h
      exact ⟨by omega, by omega, this.2.2⟩
theorem sp_ff_congr {p q : Nat → Bool} : ∀ (n i : Nat), (∀ s, i ≤ s → s < i + n → p s = q s) → sp_ff p n i = sp_ff q n i
  | 0, i, _ => rfl
  | n + 1, i, h => by
    unfold sp_ff
    rw [h i (by omega) (by omega), sp_ff_congr n (i + 1) (fun s h1 h2 => h s (by omega) (by omega))]
-- the bounds that the presses keep
def PQ (tp : Nat → Int32) (Q : Nat → Int) (T : Nat) : Prop := 0 < T ∧ T ≤ 552 ∧ ∀ s, s < T → (tp s).toInt = Q s ∧ -100 ≤ Q s ∧ Q s ≤ 100
theorem sp_ah_lt {T s : Nat} (hT : 0 < T) (hs : s < T) : sp_ah T s < T := by unfold sp_ah; split <;> omega
theorem s_press {N k : Nat} (hk : k < 552) (tl ta tt : Int32) (tp : Nat → Int32) : p_X5_press N (nI k) tl ta tt tp = some (tp k) := by
  unfold p_X5_press
  simp only [q_lit]
  rw [if_neg (q_pos (by omega)), if_neg (by rw [nI_leI (by omega) (by omega)]; omega), k_ld_nI (by omega) (by omega)]
theorem s_abs {x y : Int32} {X Y : Int} (hx : x.toInt = X) (hy : y.toInt = Y) (h1 : -1000 ≤ X) (h2 : X ≤ 1000) (h3 : -1000 ≤ Y) (h4 : Y ≤ 1000) : (k_abs (x - y)).toInt = if Y ≤ X then X - Y else Y - X := by
  have e : (x - y).toInt = X - Y := by rw [q_sub (by omega) (by omega), hx, hy]
  unfold k_abs
  by_cases h : Y ≤ X
  · rw [if_pos (by rw [Int32.le_iff_toInt_le, e]; show (0 : Int) ≤ _; omega), if_pos h, e]
  · rw [if_neg (by rw [Int32.le_iff_toInt_le, e]; show ¬ (0 : Int) ≤ _; omega), if_neg h, q_sub (by rw [e]; show _ ≤ (0 : Int) - _; omega) (by rw [e]; show (0 : Int) - _ ≤ _; omega), e]
    show (0 : Int) - _ = _
    omega
theorem s_apart {N : Nat} {x y : Int32} {X Y : Int} (hx : x.toInt = X) (hy : y.toInt = Y) (h1 : -1000 ≤ X) (h2 : X ≤ 1000) (h3 : -1000 ≤ Y) (h4 : Y ≤ 1000) : ∃ z, p_X7_apart N x y = some z ∧ z.toInt = if Y ≤ X then X - Y else Y - X := by
  unfold p_X7_apart
  by_cases h : Y ≤ X
  · rw [if_pos (by rw [Int32.le_iff_toInt_le, hx, hy]; exact h), if_pos h]
    exact ⟨_, rfl, by rw [q_sub (by omega) (by omega), hx, hy]⟩
  · rw [if_neg (by rw [Int32.le_iff_toInt_le, hx, hy]; exact h), if_neg h]
    exact ⟨_, rfl, by rw [q_sub (by omega) (by omega), hx, hy]⟩
theorem s_smoothAt {N s T σ : Nat} {ta tt : Int32} {tp : Nat → Int32} {Q : Nat → Int} (hQ : PQ tp Q T) (hs : s < T) (hσ : σ ≤ 30) : p_X5_isSmoothAt N (nI s) (nI σ) (nI T) ta tt tp = some (nI (if sp_rough Q T σ s then 0 else 1)) := by
  obtain ⟨h0, hT, hq⟩ := hQ
  have ha := sp_ah_lt h0 hs
  have key : ∀ (k : Nat), k = sp_ah T s → k_c1 (p_X5_press N (nI s) (nI T) ta tt tp) (fun r19 => k_c1 (p_X5_press N (nI k) (nI T) ta tt tp) (fun r24 => k_let (k_abs (r19 - r24)) (fun r28 => (if nI σ < r28 then some (0 : Int32) else some (1 : Int32))))) = some (nI (if sp_rough Q T σ s then 0 else 1)) := by
    intro k hk
    subst hk
    rw [s_press (by omega), k_c1_some, s_press (by omega), k_c1_some, k_let_eq]
    have e := s_abs (hq s hs).1 (hq _ ha).1 (by have := (hq s hs).2; omega) (by have := (hq s hs).2; omega) (by have := (hq _ ha).2; omega) (by have := (hq _ ha).2; omega)
    by_cases hr : sp_rough Q T σ s = true
    · rw [if_pos hr, if_pos]
      · rfl
      · rw [Int32.lt_iff_toInt_lt, nI_toInt (by omega), e]
        have h1 := of_decide_eq_true hr
        split <;> omega
    · rw [if_neg hr, if_neg]
      · rfl
      · rw [Int32.lt_iff_toInt_lt, nI_toInt (by omega), e]
        have h1 : ¬ _ := fun q => hr (decide_eq_true q)
        split <;> omega
  unfold p_X5_isSmoothAt
  simp only [q_lit] at key ⊢
  by_cases hs0 : s = 0
  · rw [if_pos (by rw [nI_leI (by omega) (by omega)]; omega), k_let_eq, pk_sub (by omega)]
    exact key (T - 1) (by unfold sp_ah; rw [if_neg (by omega)])
  · rw [if_neg (by rw [nI_leI (by omega) (by omega)]; omega), k_let_eq, pk_sub (by omega)]
    exact key (s - 1) (by unfold sp_ah; rw [if_pos (by omega)])
theorem s_fb_loop {N T σ : Nat} {ta tt : Int32} {tp : Nat → Int32} {Q : Nat → Int} (hQ : PQ tp Q T) (hσ : σ ≤ 30) : ∀ n i : Nat, i ≤ T → T - i < n → f_X5_firstBadStep_2 N n (nI σ) (nI i) (nI T) ta tt tp = some (sp_ans (sp_ff (sp_bad Q T σ) (T - i) i)) := by
  intro n
  induction n with
  | zero => intro i h1 h2; omega
  | succ n ih =>
    intro i h1 h2
    obtain ⟨h0, hT, hq⟩ := id hQ
    show b_X5_firstBadStep_2 N (f_X5_firstBadStep_2 N n) (nI σ) (nI i) (nI T) ta tt tp = _
    unfold b_X5_firstBadStep_2
    by_cases hi : i = T
    · subst hi
      rw [if_pos (by rw [nI_leI (by omega) (by omega)]; omega), Nat.sub_self]
      rfl
    · rw [if_neg (by rw [nI_leI (by omega) (by omega)]; omega), s_press (by omega), k_c1_some, show T - i = (T - (i + 1)) + 1 by omega]
      unfold sp_ff
      by_cases hp : Q i < 1
      · rw [if_pos (by rw [Int32.lt_iff_toInt_lt, (hq i (by omega)).1]; exact hp), if_pos (by unfold sp_bad; rw [decide_eq_true hp]; rfl)]
        rfl
      · rw [if_neg (by rw [Int32.lt_iff_toInt_lt, (hq i (by omega)).1]; exact hp), s_smoothAt hQ (by omega) hσ, k_c1_some]
        have e : sp_bad Q T σ i = sp_rough Q T σ i := by unfold sp_bad; rw [decide_eq_false hp]; rfl
        rw [e]
        by_cases hr : sp_rough Q T σ i = true
        · rw [hr]; rfl
        · have hr' : sp_rough Q T σ i = false := Bool.not_eq_true _ ▸ hr
          rw [hr']
          simp only [q_lit, nI_add, k_let_eq]
          rw [if_neg (by decide), if_neg (by decide)]
          exact ih (i + 1) (by omega) (by omega)
theorem s_fb {N T σ : Nat} {ta tt : Int32} {tp : Nat → Int32} {Q : Nat → Int} (hN : 20000 ≤ N) (hQ : PQ tp Q T) (hσ : σ ≤ 30) : p_X5_firstBadStep N (nI σ) (nI T) ta tt tp = some (sp_ans (sp_ff (sp_bad Q T σ) T 0)) := by
  unfold p_X5_firstBadStep
  exact s_fb_loop hQ hσ N 0 (by omega) (by have := hQ.2.1; omega)
theorem s_meshes {N T σ : Nat} {ta tt : Int32} {tp : Nat → Int32} {Q : Nat → Int} (hN : 20000 ≤ N) (hQ : PQ tp Q T) (hσ : σ ≤ 30) : p_X5_meshes N (nI σ) (nI T) ta tt tp = some (nI (if sp_ff (sp_bad Q T σ) T 0 = none then 1 else 0)) := by
  unfold p_X5_meshes
  rw [s_fb hN hQ hσ, k_c1_some]
  cases h : sp_ff (sp_bad Q T σ) T 0 with
  | none => rfl
  | some s =>
    have hs := sp_ff_some _ _ _ h
    have := hQ.2.1
    rw [if_neg (show ¬ sp_ans (some s) = -6 from fun q => by have q : nI s = -nI 6 := q; rw [q_pn (by omega) (by omega)] at q; omega), if_neg (fun q => by cases q)]
    rfl
theorem s_sm_loop {N T σ : Nat} {ta tt : Int32} {tp : Nat → Int32} {Q : Nat → Int} (hQ : PQ tp Q T) (hσ : σ ≤ 30) : ∀ n i : Nat, i ≤ T → T - i < n → f_X5_isSmooth_2 N n (nI σ) (nI i) (nI T) ta tt tp = some (nI (if sp_ff (sp_rough Q T σ) (T - i) i = none then 1 else 0)) := by
  intro n
  induction n with
  | zero => intro i h1 h2; omega
  | succ n ih =>
    intro i h1 h2
    obtain ⟨h0, hT, hq⟩ := id hQ
    show b_X5_isSmooth_2 N (f_X5_isSmooth_2 N n) (nI σ) (nI i) (nI T) ta tt tp = _
    unfold b_X5_isSmooth_2
    by_cases hi : i = T
    · subst hi
      rw [if_pos (by rw [nI_leI (by omega) (by omega)]; omega), Nat.sub_self]
      rfl
    · rw [if_neg (by rw [nI_leI (by omega) (by omega)]; omega), s_smoothAt hQ (by omega) hσ, k_c1_some, show T - i = (T - (i + 1)) + 1 by omega]
      unfold sp_ff
      by_cases hr : sp_rough Q T σ i = true
      · rw [hr]; rfl
      · have hr' : sp_rough Q T σ i = false := Bool.not_eq_true _ ▸ hr
        rw [hr']
        simp only [q_lit, nI_add, k_let_eq, Bool.false_eq_true, ↓reduceIte]
        rw [if_neg (by decide)]
        exact ih (i + 1) (by omega) (by omega)
theorem s_sm {N T σ : Nat} {ta tt : Int32} {tp : Nat → Int32} {Q : Nat → Int} (hN : 20000 ≤ N) (hQ : PQ tp Q T) (hσ : σ ≤ 30) : p_X5_isSmooth N (nI σ) (nI T) ta tt tp = some (nI (if sp_ff (sp_rough Q T σ) T 0 = none then 1 else 0)) := by
  unfold p_X5_isSmooth
  exact s_sm_loop hQ hσ N 0 (by omega) (by have := hQ.2.1; omega)
-- the least, the greatest of a row
def is_min (Q : Nat → Int) (T : Nat) (v : Int) : Prop := (∀ s, s < T → v ≤ Q s) ∧ ∃ s, s < T ∧ v = Q s
def is_max (Q : Nat → Int) (T : Nat) (v : Int) : Prop := (∀ s, s < T → Q s ≤ v) ∧ ∃ s, s < T ∧ v = Q s
theorem is_min_uni {Q : Nat → Int} {T : Nat} {v v' : Int} (h : is_min Q T v) (h' : is_min Q T v') : v = v' := by
  obtain ⟨h1, s, hs, e⟩ := h
  obtain ⟨h1', s', hs', e'⟩ := h'
  have := h1 s' hs'
  have := h1' s hs
  omega
theorem is_max_uni {Q : Nat → Int} {T : Nat} {v v' : Int} (h : is_max Q T v) (h' : is_max Q T v') : v = v' := by
  obtain ⟨h1, s, hs, e⟩ := h
  obtain ⟨h1', s', hs', e'⟩ := h'
  have := h1 s' hs'
  have := h1' s hs
  omega
theorem q_min (x y : Int32) : (k_min x y).toInt = if y.toInt < x.toInt then y.toInt else x.toInt := by
  unfold k_min
  by_cases h : y < x
  · rw [if_pos h, if_pos (by rw [Int32.lt_iff_toInt_lt] at h; exact h)]
  · rw [if_neg h, if_neg (by rw [Int32.lt_iff_toInt_lt] at h; exact h)]
theorem q_max (x y : Int32) : (k_max x y).toInt = if x.toInt < y.toInt then y.toInt else x.toInt := by
  unfold k_max
  by_cases h : x < y
  · rw [if_pos h, if_pos (by rw [Int32.lt_iff_toInt_lt] at h; exact h)]
  · rw [if_neg h, if_neg (by rw [Int32.lt_iff_toInt_lt] at h; exact h)]
theorem is_min_next {Q : Nat → Int} {i : Nat} {v : Int} (h : is_min Q i v) : is_min Q (i + 1) (if Q i < v then Q i else v) := by
  obtain ⟨h1, s, hs, e⟩ := h
  by_cases hq : Q i < v
  · rw [if_pos hq]
    refine ⟨fun s' hs' => ?_, i, by omega, rfl⟩
    by_cases hsi : s' = i
    · subst hsi; omega
    · have := h1 s' (by omega); omega
  · rw [if_neg hq]
    refine ⟨fun s' hs' => ?_, s, by omega, e⟩
    by_cases hsi : s' = i
    · subst hsi; omega
    · exact h1 s' (by omega)
theorem is_max_next {Q : Nat → Int} {i : Nat} {v : Int} (h : is_max Q i v) : is_max Q (i + 1) (if v < Q i then Q i else v) := by
  obtain ⟨h1, s, hs, e⟩ := h
  by_cases hq : v < Q i
  · rw [if_pos hq]
    refine ⟨fun s' hs' => ?_, i, by omega, rfl⟩
    by_cases hsi : s' = i
    · subst hsi; omega
    · have := h1 s' (by omega); omega
  · rw [if_neg hq]
    refine ⟨fun s' hs' => ?_, s, by omega, e⟩
    by_cases hsi : s' = i
    · subst hsi; omega
    · exact h1 s' (by omega)
theorem s_lp_loop {N T : Nat} {ta tt : Int32} {tp : Nat → Int32} {Q : Nat → Int} (hQ : PQ tp Q T) : ∀ (n i : Nat) (v : Int32), i ≤ T → T - i < n → is_min Q i v.toInt → ∃ v', f_X5_leastPress_8 N n v (nI i) (nI T) ta tt tp = some v' ∧ is_min Q T v'.toInt := by
  intro n
  induction n with
  | zero => intro i v h1 h2; omega
  | succ n ih =>
    intro i v h1 h2 hm
    obtain ⟨h0, hT, hq⟩ := id hQ
    show ∃ v', b_X5_leastPress_8 N (f_X5_leastPress_8 N n) v (nI i) (nI T) ta tt tp = some v' ∧ _
    unfold b_X5_leastPress_8
    by_cases hi : i = T
    · subst hi
      rw [if_pos (by rw [nI_leI (by omega) (by omega)]; omega)]
      exact ⟨v, rfl, hm⟩
    · rw [if_neg (by rw [nI_leI (by omega) (by omega)]; omega), s_press (by omega), k_c1_some, k_let_eq, k_let_eq]
      simp only [q_lit, nI_add]
      refine ih (i + 1) _ (by omega) (by omega) ?_
      rw [q_min, (hq i (by omega)).1]
      exact is_min_next hm
theorem s_lp {N T : Nat} {ta tt : Int32} {tp : Nat → Int32} {Q : Nat → Int} (hN : 20000 ≤ N) (hQ : PQ tp Q T) : ∃ v, p_X5_leastPress N (nI T) ta tt tp = some v ∧ is_min Q T v.toInt := by
  obtain ⟨h0, hT, hq⟩ := id hQ
  unfold p_X5_leastPress
  simp only [q_lit]
  rw [s_press (by omega), k_c1_some]
  refine s_lp_loop hQ N 1 _ (by omega) (by omega) ⟨fun s hs => ?_, 0, by omega, (hq 0 h0).1⟩
  rw [show s = 0 by omega, (hq 0 h0).1]
  exact Int.le_refl _
theorem s_gp_loop {N T : Nat} {ta tt : Int32} {tp : Nat → Int32} {Q : Nat → Int} (hQ : PQ tp Q T) : ∀ (n i : Nat) (v : Int32), i ≤ T → T - i < n → is_max Q i v.toInt → ∃ v', f_X5_greatestPress_8 N n v (nI i) (nI T) ta tt tp = some v' ∧ is_max Q T v'.toInt := by
  intro n
  induction n with
  | zero => intro i v h1 h2; omega
  | succ n ih =>
    intro i v h1 h2 hm
    obtain ⟨h0, hT, hq⟩ := id hQ
    show ∃ v', b_X5_greatestPress_8 N (f_X5_greatestPress_8 N n) v (nI i) (nI T) ta tt tp = some v' ∧ _
    unfold b_X5_greatestPress_8
    by_cases hi : i = T
    · subst hi
      rw [if_pos (by rw [nI_leI (by omega) (by omega)]; omega)]
      exact ⟨v, rfl, hm⟩
    · rw [if_neg (by rw [nI_leI (by omega) (by omega)]; omega), s_press (by omega), k_c1_some, k_let_eq, k_let_eq]
      simp only [q_lit, nI_add]
      refine ih (i + 1) _ (by omega) (by omega) ?_
      rw [q_max, (hq i (by omega)).1]
      exact is_max_next hm
theorem s_gp {N T : Nat} {ta tt : Int32} {tp : Nat → Int32} {Q : Nat → Int} (hN : 20000 ≤ N) (hQ : PQ tp Q T) : ∃ v, p_X5_greatestPress N (nI T) ta tt tp = some v ∧ is_max Q T v.toInt := by
  obtain ⟨h0, hT, hq⟩ := id hQ
  unfold p_X5_greatestPress
  simp only [q_lit]
  rw [s_press (by omega), k_c1_some]
  refine s_gp_loop hQ N 1 _ (by omega) (by omega) ⟨fun s hs => ?_, 0, by omega, (hq 0 h0).1⟩
  rw [show s = 0 by omega, (hq 0 h0).1]
  exact Int.le_refl _
