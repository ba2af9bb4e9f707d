-- A TURN of a pair: its length, its presses, what both programs find in them
theorem q_lcm_le : ∀ a, a < 25 → ∀ b, b < 25 → Nat.lcm a b ≤ 552 := by decide +kernel
theorem q_lcm_first {a b i : Nat} (ha : 0 < a) (hb : 0 < b) (hi : 1 ≤ i) (h : a * i % b = 0) (hm : ∀ j, 1 ≤ j → j < i → ¬ a * j % b = 0) : a * i = Nat.lcm a b := by
  have h1 : Nat.lcm a b ∣ a * i := Nat.lcm_dvd (Nat.dvd_mul_right a i) (Nat.dvd_of_mod_eq_zero h)
  obtain ⟨t, ht⟩ := Nat.dvd_lcm_left a b
  have hpos : 0 < Nat.lcm a b := Nat.lcm_pos ha hb
  have ht0 : 1 ≤ t := by
    rcases Nat.eq_zero_or_pos t with e | e
    · rw [e] at ht; omega
    · exact e
  have h2 : a * t % b = 0 := by rw [← ht]; exact Nat.mod_eq_zero_of_dvd (Nat.dvd_lcm_right a b)
  have h3 : i ≤ t := Nat.not_lt.mp fun q => hm t ht0 q h2
  have h4 : a * i ≤ a * t := Nat.mul_le_mul_left a h3
  have h5 : Nat.lcm a b ≤ a * i := Nat.le_of_dvd (Nat.mul_pos ha hi) h1
  omega
theorem q_sub {a b : Int32} (h : -2147483648 ≤ a.toInt - b.toInt) (h2 : a.toInt - b.toInt ≤ 2147483647) : (a - b).toInt = a.toInt - b.toInt := by
  rw [Int32.toInt_sub]
  simp only [Int.bmod]
  split <;> omega
theorem q_add {a b : Int32} (h : -2147483648 ≤ a.toInt + b.toInt) (h2 : a.toInt + b.toInt ≤ 2147483647) : (a + b).toInt = a.toInt + b.toInt := by
  rw [Int32.toInt_add]
  simp only [Int.bmod]
  split <;> omega
theorem q_ng {a : Int32} (h : -2147483647 ≤ a.toInt) : (-a).toInt = -a.toInt := by
  have h1 := a.toInt_lt
  rw [Int32.toInt_neg]
  simp only [Int.bmod]
  split <;> omega
theorem s_lm_loop {N a b : Nat} (ha : 2 ≤ a) (ha2 : a ≤ 24) (hb : 2 ≤ b) (hb2 : b ≤ 24) : ∀ n i : Nat, 1 ≤ i → i ≤ b → (∀ j, 1 ≤ j → j < i → ¬ a * j % b = 0) → b - i < n → f_X5_leastMultiple_2 N n (nI a) (nI b) (nI i) = some (nI (Nat.lcm a b)) := by
  intro n
  induction n with
  | zero => intro i h1 h2 h3 h4; omega
  | succ n ih =>
    intro i h1 h2 h3 h4
    show b_X5_leastMultiple_2 N (f_X5_leastMultiple_2 N n) (nI a) (nI b) (nI i) = _
    unfold b_X5_leastMultiple_2
    have hai : a * i ≤ 24 * 24 := Nat.mul_le_mul ha2 (by omega)
    by_cases hib : i = b
    · subst hib
      rw [if_pos (by rw [nI_leI (by omega) (by omega)]; omega), pk_mul, q_lcm_first (by omega) (by omega) h1 (Nat.mul_mod_left a i) h3]
    · rw [if_neg (by rw [nI_leI (by omega) (by omega)]; omega), k_nz_nI (by omega) (by omega)]
      simp only [q_lit, pk_mul]
      rw [pk_rem (by omega) (by omega) (by omega)]
      by_cases hd : a * i % b = 0
      · rw [hd, if_pos rfl, q_lcm_first (by omega) (by omega) h1 hd h3]
      · have hlt : a * i % b < b := Nat.mod_lt _ (by omega)
        rw [if_neg (by rw [nI_eq (by omega) (by omega)]; exact hd), k_let_eq, nI_add]
        refine ih (i + 1) (by omega) (by omega) (fun j hj hji => ?_) (by omega)
        rcases Nat.lt_or_ge j i with q | q
        · exact h3 j hj q
        · have : j = i := by omega
          rw [this]; exact hd
theorem s_lm {N a b : Nat} (hN : 20000 ≤ N) (ha : 2 ≤ a) (ha2 : a ≤ 24) (hb : 2 ≤ b) (hb2 : b ≤ 24) : p_X5_leastMultiple N (nI a) (nI b) = some (nI (Nat.lcm a b)) := by
  unfold p_X5_leastMultiple
  exact s_lm_loop ha ha2 hb hb2 N 1 (by omega) (by omega) (fun j h1 h2 => by omega) (by omega)
theorem s_turn_loop {N u l a b : Nat} {w : Nat → Int32} (us up ue ut um : Int32) (hu : u < 8) (hl : l < 8) (hwa : w (9 + 27 * u) = nI a) (hwb : w (9 + 27 * l) = nI b) (ha : 2 ≤ a) (ha2 : a ≤ 24) (hb : 2 ≤ b) (hb2 : b ≤ 24) : ∀ n i : Nat, 1 ≤ i → i ≤ b → (∀ j, 1 ≤ j → j < i → ¬ a * j % b = 0) → b - i < n → f_X7_turn_7 N n (nI u) (nI l) (nI (a * i)) us up ue ut um w = some (nI (Nat.lcm a b)) := by
  intro n
  induction n with
  | zero => intro i h1 h2 h3 h4; omega
  | succ n ih =>
    intro i h1 h2 h3 h4
    show b_X7_turn_7 N (f_X7_turn_7 N n) (nI u) (nI l) (nI (a * i)) us up ue ut um w = _
    unfold b_X7_turn_7
    have hai : a * i ≤ 24 * 24 := Nat.mul_le_mul ha2 (by omega)
    simp only [q_lit]
    rw [s_ofR (by omega) (by omega), s_ofR (by omega) (by omega), k_c1_some, Nat.add_zero, Nat.add_zero, hwb, hwa, k_nz_nI (by omega) (by omega), pk_rem (by omega) (by omega) (by omega)]
    by_cases hd : a * i % b = 0
    · rw [hd, if_pos rfl, q_lcm_first (by omega) (by omega) h1 hd h3]
    · have hlt : a * i % b < b := Nat.mod_lt _ (by omega)
      have hib : i ≠ b := fun q => hd (by rw [q]; exact Nat.mul_mod_left a b)
      rw [if_neg (by rw [nI_eq (by omega) (by omega)]; exact hd), k_c1_some, k_let_eq, nI_add, show a * i + a = a * (i + 1) by rw [Nat.mul_succ]]
      refine ih (i + 1) (by omega) (by omega) (fun j hj hji => ?_) (by omega)
      rcases Nat.lt_or_ge j i with q | q
      · exact h3 j hj q
      · have : j = i := by omega
        rw [this]; exact hd
theorem s_turn {N u l a b : Nat} {w : Nat → Int32} (hN : 20000 ≤ N) (us up ue ut um : Int32) (hu : u < 8) (hl : l < 8) (hwa : w (9 + 27 * u) = nI a) (hwb : w (9 + 27 * l) = nI b) (ha : 2 ≤ a) (ha2 : a ≤ 24) (hb : 2 ≤ b) (hb2 : b ≤ 24) : p_X7_turn N (nI u) (nI l) us up ue ut um w = some (nI (Nat.lcm a b)) := by
  unfold p_X7_turn
  simp only [q_lit]
  rw [s_ofR (by omega) (by omega), k_c1_some, Nat.add_zero, hwa]
  have := s_turn_loop (N := N) us up ue ut um hu hl hwa hwb ha ha2 hb hb2 N 1 (by omega) (by omega) (fun j h1 h2 => by omega) (by omega)
  rw [Nat.mul_one] at this
  exact this
-- the press, as an int
def sp_pr (c : Nat → Int32) (u l o g a b s : Nat) : Int32 := nI g - c (12 + 27 * u + s % a) - c (12 + 27 * l + (s + o) % b)
theorem q_nx {i a : Nat} (ha : 0 < a) : (if i % a + 1 < a then i % a + 1 else 0) = (i + 1) % a := by
  have h := Nat.mod_lt i ha
  rw [← Nat.mod_add_mod i a 1]
  by_cases h2 : i % a + 1 < a
  · rw [if_pos h2, Nat.mod_eq_of_lt h2]
  · rw [if_neg h2, show i % a + 1 = a by omega, Nat.mod_self]
theorem s_next {N k n : Nat} (hk : k < 65536) (hn : n < 65536) : p_X5_next N (nI k) (nI n) = some (nI (if k + 1 < n then k + 1 else 0)) := by
  unfold p_X5_next
  simp only [q_lit, nI_add]
  by_cases h : k + 1 < n
  · rw [if_neg (by rw [nI_leI (by omega) (by omega)]; omega), if_pos h]
  · rw [if_pos (by rw [nI_leI (by omega) (by omega)]; omega), if_neg h]
theorem s_lay_loop {N u l o g a b T : Nat} {c : Nat → Int32} (vta vtt : Int32) (hu : u < 8) (hl : l < 8) (ha : 2 ≤ a) (ha2 : a ≤ 24) (hb : 2 ≤ b) (hb2 : b ≤ 24) (hT : T ≤ 552) : ∀ (n i : Nat) (tp : Nat → Int32), i ≤ T → T - i < n → (∀ s, s < i → tp s = sp_pr c u l o g a b s) → ∃ tp', f_X5_lay_53 N n (nI u) (nI l) (nI g) (nI a) (nI b) (nI (i % a)) (nI ((i + o) % b)) (nI i) c (nI T) vta vtt tp = some (nI T, tp') ∧ ∀ s, s < T → tp' s = sp_pr c u l o g a b s := by
  intro n
  induction n with
  | zero => intro i tp h1 h2 h3; omega
  | succ n ih =>
    intro i tp h1 h2 h3
    show ∃ tp', b_X5_lay_53 N (f_X5_lay_53 N n) (nI u) (nI l) (nI g) (nI a) (nI b) (nI (i % a)) (nI ((i + o) % b)) (nI i) c (nI T) vta vtt tp = some (nI T, tp') ∧ _
    unfold b_X5_lay_53
    have e1 := Nat.mod_lt i (show 0 < a by omega)
    have e2 := Nat.mod_lt (i + o) (show 0 < b by omega)
    by_cases hi : i = T
    · subst hi
      rw [if_pos (by rw [nI_leI (by omega) (by omega)]; omega)]
      exact ⟨tp, rfl, h3⟩
    · rw [if_neg (by rw [nI_leI (by omega) (by omega)]; omega)]
      simp only [q_lit]
      rw [if_neg (by rw [nI_leI (by omega) (by omega)]; omega), s_height hu (by omega), k_c1_some, s_height hl (by omega), k_c1_some, k_st_nI (by omega) (by omega), s_next (by omega) (by omega), k_c1_some, s_next (by omega) (by omega), k_c1_some, k_let_eq, nI_add, q_nx (by omega), q_nx (by omega), show i + o + 1 = i + 1 + o by omega]
      refine ih (i + 1) _ (by omega) (by omega) (fun s hs => ?_)
      by_cases hsi : s = i
      · subst hsi
        rw [q_us]
        rfl
      · rw [q_un hsi]
        exact h3 s (by omega)
theorem s_lay {N u l o g a b : Nat} {c : Nat → Int32} (hN : 20000 ≤ N) (tl vta vtt : Int32) (tp : Nat → Int32) (hu : u < 8) (hl : l < 8) (hca : c (9 + 27 * u) = nI a) (hcb : c (9 + 27 * l) = nI b) (ha : 2 ≤ a) (ha2 : a ≤ 24) (hb : 2 ≤ b) (hb2 : b ≤ 24) (ho : o ≤ 23) : ∃ tp', p_X5_lay N (nI u) (nI l) (nI o) (nI g) c tl vta vtt tp = some (nI (Nat.lcm a b), tp') ∧ ∀ s, s < Nat.lcm a b → tp' s = sp_pr c u l o g a b s := by
  unfold p_X5_lay
  have hT := q_lcm_le a (by omega) b (by omega)
  rw [s_teeth hu, k_c1_some, s_teeth hl, k_c1_some, hca, hcb, s_lm hN ha ha2 hb hb2, k_c1_some, k_let_eq]
  have hmin : k_min (nI (Nat.lcm a b)) (552 : Int32) = nI (Nat.lcm a b) := by
    unfold k_min
    simp only [q_lit]
    rw [if_neg (by rw [nI_ltI (by omega) (by omega)]; omega)]
  rw [hmin]
  simp only [q_lit]
  rw [if_neg (by rw [nI_leI (by omega) (by omega)]; omega), k_nz_nI (by omega) (by omega), k_let_eq, pk_rem (by omega) (by omega) (by omega)]
  have h := s_lay_loop (N := N) (c := c) (o := o) (g := g) vta vtt hu hl ha ha2 hb hb2 hT N 0 tp (by omega) (by omega) (fun s hs => by omega)
  rw [Nat.zero_mod, Nat.zero_add] at h
  exact h
