-- what is seen of a state: a number that hangs on its 225 cells alone
def nrm (c : Nat → Int32) : Nat → Int32 := fun i => if i < 225 then c i else 0
theorem nrm_eq {c c' : Nat → Int32} (h : ∀ i, i < 225 → c' i = c i) : nrm c' = nrm c := by
  funext i
  unfold nrm
  by_cases hi : i < 225
  · rw [if_pos hi, if_pos hi, h i hi]
  · rw [if_neg hi, if_neg hi]
theorem n_cell (N : Nat) (i : Int32) (c : Nat → Int32) : p_X3_cell N i (nrm c) = p_X3_cell N i c := by
  unfold p_X3_cell
  by_cases h1 : i < 0
  · rw [if_pos h1, if_pos h1]
  · rw [if_neg h1, if_neg h1]
    by_cases h2 : (225 : Int32) ≤ i
    · rw [if_pos h2, if_pos h2]
    · rw [if_neg h2, if_neg h2]
      unfold k_ld
      by_cases h3 : i < 0 ∨ 225 ≤ i.toNatClampNeg
      · rw [if_pos h3, if_pos h3]
      · rw [if_neg h3, if_neg h3]
        unfold nrm
        rw [if_pos (by omega)]
theorem n_teeth (N : Nat) (i : Int32) (c : Nat → Int32) : p_X3_teeth N i (nrm c) = p_X3_teeth N i c := by
  unfold p_X3_teeth; simp only [n_cell]
theorem n_made (N : Nat) (i : Int32) (c : Nat → Int32) : p_X3_stepsSinceWorn N i (nrm c) = p_X3_stepsSinceWorn N i c := by
  unfold p_X3_stepsSinceWorn; simp only [n_cell]
theorem n_worn (N : Nat) (i : Int32) (c : Nat → Int32) : p_X3_timesWorn N i (nrm c) = p_X3_timesWorn N i c := by
  unfold p_X3_timesWorn; simp only [n_cell]
theorem n_height (N : Nat) (i k : Int32) (c : Nat → Int32) : p_X3_height N i k (nrm c) = p_X3_height N i k c := by
  unfold p_X3_height; simp only [n_cell]
theorem n_has (N : Nat) (i : Int32) (c : Nat → Int32) : p_X3_has N i (nrm c) = p_X3_has N i c := by
  unfold p_X3_has; simp only [n_cell]
theorem n_hasTooth (N : Nat) (i k : Int32) (c : Nat → Int32) : p_X3_hasTooth N i k (nrm c) = p_X3_hasTooth N i k c := by
  unfold p_X3_hasTooth; simp only [n_has, n_teeth]
theorem n_set_loop (N : Nat) (x1 x2 : Int32) (c : Nat → Int32) : ∀ (n : Nat) (a k : Int32), f_X3_teethOfSign_5 N n x1 x2 a k (nrm c) = f_X3_teethOfSign_5 N n x1 x2 a k c := by
  intro n
  induction n with
  | zero => intro a k; rfl
  | succ n ih =>
    intro a k
    show b_X3_teethOfSign_5 N (f_X3_teethOfSign_5 N n) x1 x2 a k (nrm c) = b_X3_teethOfSign_5 N (f_X3_teethOfSign_5 N n) x1 x2 a k c
    unfold b_X3_teethOfSign_5
    simp only [n_teeth, n_height, ih]
theorem n_gr_loop (N : Nat) (x1 : Int32) (c : Nat → Int32) : ∀ (n : Nat) (a k : Int32), f_X3_greatestHeight_9 N n x1 a k (nrm c) = f_X3_greatestHeight_9 N n x1 a k c := by
  intro n
  induction n with
  | zero => intro a k; rfl
  | succ n ih =>
    intro a k
    show b_X3_greatestHeight_9 N (f_X3_greatestHeight_9 N n) x1 a k (nrm c) = b_X3_greatestHeight_9 N (f_X3_greatestHeight_9 N n) x1 a k c
    unfold b_X3_greatestHeight_9
    simp only [n_teeth, n_height, ih]
theorem n_le_loop (N : Nat) (x1 : Int32) (c : Nat → Int32) : ∀ (n : Nat) (a k : Int32), f_X3_leastHeight_9 N n x1 a k (nrm c) = f_X3_leastHeight_9 N n x1 a k c := by
  intro n
  induction n with
  | zero => intro a k; rfl
  | succ n ih =>
    intro a k
    show b_X3_leastHeight_9 N (f_X3_leastHeight_9 N n) x1 a k (nrm c) = b_X3_leastHeight_9 N (f_X3_leastHeight_9 N n) x1 a k c
    unfold b_X3_leastHeight_9
    simp only [n_teeth, n_height, ih]
theorem n_of (N : Nat) (i k : Int32) (c : Nat → Int32) : p_X6_of N i k (nrm c) = p_X6_of N i k c := by
  unfold p_X6_of p_X3_teethOfSign p_X3_greatestHeight p_X3_leastHeight
  simp only [n_has, n_teeth, n_height, n_made, n_worn, n_set_loop, n_gr_loop, n_le_loop]
theorem n_tooth (N : Nat) (i k : Int32) (c : Nat → Int32) : p_X6_tooth N i k (nrm c) = p_X6_tooth N i k c := by
  unfold p_X6_tooth
  simp only [n_hasTooth, n_height]
-- the sum over the calls, with what each answers
def z_of (c : Nat → Int32) (r k : Nat) : Int32 := (p_X6_of 20000 (nI r) (nI k) (nrm c)).getD 0
def z_tooth (c : Nat → Int32) (r k : Nat) : Int32 := (p_X6_tooth 20000 (nI r) (nI k) (nrm c)).getD 0
theorem z_of_eq {c w : Nat → Int32} (hR : SR c w) (r k : Nat) : p_X6_of 20000 (nI r) (nI k) c = some (z_of c r k) := by
  obtain ⟨v, h, -⟩ := e_of (N := 20000) (by omega) hR (nI r) (nI k) 0 0 0 0 0
  unfold z_of
  rw [n_of, h]
  rfl
theorem z_tooth_eq {c w : Nat → Int32} (hR : SR c w) (r k : Nat) : p_X6_tooth 20000 (nI r) (nI k) c = some (z_tooth c r k) := by
  obtain ⟨v, h, -⟩ := e_tooth (N := 20000) hR (nI r) (nI k) 0 0 0 0 0
  unfold z_tooth
  rw [n_tooth, h]
  rfl
def z_run (f : Nat → Int64 → Int64) : Nat → Nat → Int64 → Int64
  | 0, _, h => h
  | n + 1, k, h => z_run f n (k + 1) (f k h)
def z_seen (m : Nat) (c : Nat → Int32) : Int64 :=
  z_run (fun k h => 31 * h + (z_tooth c (k / 24) (k % 24)).toInt64) (24 * m) 0 (z_run (fun k h => 31 * h + (z_of c (k / 7) (k % 7)).toInt64) (7 * m) 0 (z_run (fun k h => 31 * h + (c k).toInt64) 9 0 59))
theorem z_run_congr {f g : Nat → Int64 → Int64} : ∀ (n k : Nat) (h : Int64), (∀ j, k ≤ j → j < k + n → ∀ x, f j x = g j x) → z_run f n k h = z_run g n k h
  | 0, _, _, _ => rfl
  | n + 1, k, h, hh => by
    unfold z_run
    rw [hh k (by omega) (by omega)]
    exact z_run_congr n (k + 1) _ (fun j h1 h2 => hh j (by omega) (by omega))
theorem z_seen_congr {m : Nat} {c c' : Nat → Int32} (h : ∀ i, i < 225 → c' i = c i) : z_seen m c' = z_seen m c := by
  have e := nrm_eq h
  have e9 : z_run (fun k h => 31 * h + (c' k).toInt64) 9 0 59 = z_run (fun k h => 31 * h + (c k).toInt64) 9 0 59 := z_run_congr 9 0 59 (fun j _ hj x => by rw [h j (by omega)])
  unfold z_seen z_of z_tooth
  rw [e, e9]
theorem s_seen {m : Nat} {c w : Nat → Int32} (hR : SR c w) (h0 : c 0 = nI m) (hm : m ≤ 8) (hf hl pl : Int32) : p_L_seen 20000 c hf hl pl = some (z_seen m c) := by
  have l3 : ∀ (n k : Nat) (h : Int64), k ≤ 24 * m → 24 * m - k < n → f_L_seen_73 20000 n h (nI k) c hf hl pl = some (z_run (fun k h => 31 * h + (z_tooth c (k / 24) (k % 24)).toInt64) (24 * m - k) k h) := by
    intro n
    induction n with
    | zero => intro k h h1 h2; omega
    | succ n ih =>
      intro k h h1 h2
      show b_L_seen_73 20000 (f_L_seen_73 20000 n) h (nI k) c hf hl pl = _
      unfold b_L_seen_73
      simp only [q_lit]
      rw [l_count0 (by omega), k_c1_some, h0, pk_mul]
      by_cases hk : k = 24 * m
      · rw [if_pos (by rw [nI_leI (by omega) (by omega)]; omega), hk, Nat.sub_self]
        rfl
      · rw [if_neg (by rw [nI_leI (by omega) (by omega)]; omega), k_nz_nI (by omega) (by omega), k_nz_nI (by omega) (by omega), pk_rem (by omega) (by omega) (by omega), pk_div (by omega) (by omega) (by omega), z_tooth_eq hR, k_c1_some, k_let_eq, k_let_eq, nI_add, ih (k + 1) _ (by omega) (by omega), show 24 * m - k = (24 * m - (k + 1)) + 1 by omega]
        rfl
  have l2 : ∀ (n k : Nat) (h : Int64), k ≤ 7 * m → 7 * m - k < n → f_L_seen_33 20000 n h (nI k) c hf hl pl = some (z_run (fun k h => 31 * h + (z_tooth c (k / 24) (k % 24)).toInt64) (24 * m) 0 (z_run (fun k h => 31 * h + (z_of c (k / 7) (k % 7)).toInt64) (7 * m - k) k h)) := by
    intro n
    induction n with
    | zero => intro k h h1 h2; omega
    | succ n ih =>
      intro k h h1 h2
      show b_L_seen_33 20000 (f_L_seen_33 20000 n) h (nI k) c hf hl pl = _
      unfold b_L_seen_33
      simp only [q_lit]
      rw [l_count0 (by omega), k_c1_some, h0, pk_mul]
      by_cases hk : k = 7 * m
      · rw [if_pos (by rw [nI_leI (by omega) (by omega)]; omega), hk, Nat.sub_self, l3 20000 0 h (by omega) (by omega)]
        rfl
      · rw [if_neg (by rw [nI_leI (by omega) (by omega)]; omega), k_nz_nI (by omega) (by omega), k_nz_nI (by omega) (by omega), pk_rem (by omega) (by omega) (by omega), pk_div (by omega) (by omega) (by omega), z_of_eq hR, k_c1_some, k_let_eq, k_let_eq, nI_add, ih (k + 1) _ (by omega) (by omega), show 7 * m - k = (7 * m - (k + 1)) + 1 by omega]
        rfl
  have l1 : ∀ (n k : Nat) (h : Int64), k ≤ 9 → 9 - k < n → f_L_seen_6 20000 n h (nI k) c hf hl pl = some (z_run (fun k h => 31 * h + (z_tooth c (k / 24) (k % 24)).toInt64) (24 * m) 0 (z_run (fun k h => 31 * h + (z_of c (k / 7) (k % 7)).toInt64) (7 * m) 0 (z_run (fun k h => 31 * h + (c k).toInt64) (9 - k) k h))) := by
    intro n
    induction n with
    | zero => intro k h h1 h2; omega
    | succ n ih =>
      intro k h h1 h2
      show b_L_seen_6 20000 (f_L_seen_6 20000 n) h (nI k) c hf hl pl = _
      unfold b_L_seen_6
      simp only [q_lit]
      by_cases hk : k = 9
      · rw [if_pos (by rw [nI_leI (by omega) (by omega)]; omega), hk, l2 20000 0 h (by omega) (by omega)]
        rfl
      · rw [if_neg (by rw [nI_leI (by omega) (by omega)]; omega), l_count0 (by omega), k_c1_some, k_let_eq, k_let_eq, nI_add, ih (k + 1) _ (by omega) (by omega), show 9 - k = (9 - (k + 1)) + 1 by omega]
        rfl
  unfold p_L_seen
  simp only [q_lit]
  exact l1 20000 0 59 (by omega) (by omega)
theorem q_cmp_self (x : Int64) : lg_cmp x x = nI 0 := by
  unfold lg_cmp
  simp
  rfl
theorem refused_ok {m f k : Nat} {c w : Nat → Int32} (hR : SR c w) (h0 : c 0 = nI m) (hm8 : m ≤ 8) (hm2 : 2 ≤ m) (hf : f < 7) (sf ra rk rt tl ta tt : Int32) (hs ss pp rn tp : Nat → Int32) : p_L_refused 20000 c (nI f) (nI k) hs sf ss (nI 0) pp ra rk rt rn tl ta tt tp = some (nI 1, c, nI f, nI k, va_cpy c hs 0 (f * 225) 225, sf, ss, nI 0, pp, nI 0, nI 0, nI 0, rn, tl, ta, tt, tp) := by
  have r0 := refuses_0 (k := k) hR h0 hm8 hm2 hf sf ra rk rt tl ta tt hs ss pp rn tp
  have r1 := refuses_1 (k := k) hR h0 hm8 hm2 hf sf (nI 0) (nI 0) (nI 0) tl ta tt (va_cpy c hs 0 (f * 225) 225) ss pp rn tp
  rw [cpy_idem] at r1
  unfold p_L_refused
  simp only [q_lit]
  rw [s_seen hR h0 hm8, k_c1_some, l_count10, k_c1_some, r0, k_c17_some, if_neg (by decide), r1, k_c17_some, if_neg (by decide), s_seen hR h0 hm8, k_c1_some, q_cmp_self, if_pos rfl, l_count10, k_c1_some, if_pos rfl]
