-- PURE: numbers
theorem q_lit (n : Nat) : (OfNat.ofNat n : Int32) = nI n := by
  have h : nI n = (OfNat.ofNat n : Int32) := rfl
  rw [h]
theorem q_neg {n : Nat} (h : n < 2 ^ 31) : (-nI n).toInt = -(n : Int) := sb_negT h
theorem q_nn {a b : Nat} (ha : a < 2 ^ 31) (hb : b < 2 ^ 31) : -nI a = -nI b ↔ a = b := by
  rw [← Int32.toInt_inj, q_neg ha, q_neg hb]; omega
theorem q_np {a b : Nat} (ha : a < 2 ^ 31) (hb : b < 2 ^ 31) : -nI a = nI b ↔ a = 0 ∧ b = 0 := by
  rw [← Int32.toInt_inj, q_neg ha, nI_toInt hb]; omega
theorem q_pn {a b : Nat} (ha : a < 2 ^ 31) (hb : b < 2 ^ 31) : nI b = -nI a ↔ a = 0 ∧ b = 0 := by
  rw [← Int32.toInt_inj, q_neg ha, nI_toInt hb]; omega
theorem q_lnp {a b : Nat} (ha : a < 2 ^ 31) (hb : b < 2 ^ 31) : -nI a < nI b ↔ 0 < a + b := by
  rw [Int32.lt_iff_toInt_lt, q_neg ha, nI_toInt hb]; omega
theorem q_lpn {a b : Nat} (ha : a < 2 ^ 31) (hb : b < 2 ^ 31) : nI b < -nI a ↔ False := by
  rw [Int32.lt_iff_toInt_lt, q_neg ha, nI_toInt hb]
  exact ⟨fun h => by omega, False.elim⟩
theorem q_enp {a b : Nat} (ha : a < 2 ^ 31) (hb : b < 2 ^ 31) : -nI a ≤ nI b ↔ True := by
  rw [Int32.le_iff_toInt_le, q_neg ha, nI_toInt hb]
  exact ⟨fun _ => trivial, fun _ => by omega⟩
theorem q_epn {a b : Nat} (ha : a < 2 ^ 31) (hb : b < 2 ^ 31) : nI b ≤ -nI a ↔ a = 0 ∧ b = 0 := by
  rw [Int32.le_iff_toInt_le, q_neg ha, nI_toInt hb]; omega
theorem q_pos {k : Nat} (h : k < 2 ^ 31) : ¬ nI k < nI 0 := nI_pos h
theorem q_b0 : (nI 0 &&& nI 1) = nI 0 := by decide
theorem q_b1 : (nI 1 &&& nI 1) = nI 1 := by decide
theorem q_rng {x : Int32} {n : Nat} (hn : n < 2 ^ 31) : (0 ≤ x.toInt ∧ x.toInt ≤ (n : Int)) ↔ ∃ j : Nat, j ≤ n ∧ x = nI j := by
  constructor
  · intro h
    refine ⟨x.toInt.toNat, by omega, ?_⟩
    rw [← Int32.toInt_inj, nI_toInt (by omega)]
    omega
  · rintro ⟨j, hj, rfl⟩
    rw [nI_toInt (by omega)]
    omega
-- the decompiler's words at numbers
theorem k_let_eq {α β : Type} (a : α) (f : α → β) : k_let a f = f a := rfl
theorem k_ld_nI {β : Type} {n k : Nat} (h : k < n) (hn : n < 65536) (f : Nat → Int32) (g : Int32 → Option β) : k_ld n f (nI k) g = g (f k) := by
  unfold k_ld
  rw [if_neg (show ¬ (nI k < 0 ∨ n ≤ (nI k).toNatClampNeg) from vp_in_nI h (by omega)), nI_clamp (by omega)]
theorem k_st_nI {β : Type} {n k : Nat} (h : k < n) (hn : n < 65536) (f : Nat → Int32) (x : Int32) (g : (Nat → Int32) → Option β) : k_st n f (nI k) x g = g (upd f k x) := by
  unfold k_st
  rw [if_neg (show ¬ (nI k < 0 ∨ n ≤ (nI k).toNatClampNeg) from vp_in_nI h (by omega)), nI_clamp (by omega)]
theorem k_nz_nI {β : Type} {k : Nat} (h : 0 < k) (hk : k < 2 ^ 31) (g : Option β) : k_nz (nI k) g = g := by
  unfold k_nz
  rw [if_neg (nI_ne0 h hk)]
theorem k_bit0 {β : Type} (g : Option β) : k_bit (nI 0) g = g := by
  unfold k_bit
  rw [if_pos (by decide)]
theorem k_bit1 {β : Type} (g : Option β) : k_bit (nI 1) g = g := by
  unfold k_bit
  rw [if_pos (by decide)]
theorem q_some_neg (a : Int32) : some a = none ↔ False := by simp
-- an int in a range, or not: both programs' tests
def q_in (x : Int32) (a b : Int) : Prop := a ≤ x.toInt ∧ x.toInt ≤ b
theorem s_outside_t {N : Nat} {x lo hi : Int32} (h : q_in x lo.toInt hi.toInt) : p_X6_outside N x lo hi = some (nI 0) := by
  unfold p_X6_outside
  rw [if_neg (by rw [Int32.lt_iff_toInt_lt]; have := h.1; omega), if_pos (by rw [Int32.le_iff_toInt_le]; exact h.2)]
  rfl
theorem s_outside_f {N : Nat} {x lo hi : Int32} (h : ¬ q_in x lo.toInt hi.toInt) : p_X6_outside N x lo hi = some (nI 1) := by
  unfold p_X6_outside
  by_cases h1 : x < lo
  · rw [if_pos h1]; rfl
  · rw [if_neg h1, if_neg (fun q => h ⟨by rw [Int32.lt_iff_toInt_lt] at h1; omega, by rw [Int32.le_iff_toInt_le] at q; exact q⟩)]
    rfl
theorem s_in_t {N : Nat} {x lo hi : Int32} (h : q_in x lo.toInt hi.toInt) : p_X7_in N x lo hi = some (nI 1) := by
  unfold p_X7_in
  rw [if_neg (by rw [Int32.lt_iff_toInt_lt]; have := h.1; omega), if_neg (by rw [Int32.lt_iff_toInt_lt]; have := h.2; omega)]
  rfl
theorem s_in_f {N : Nat} {x lo hi : Int32} (h : ¬ q_in x lo.toInt hi.toInt) : p_X7_in N x lo hi = some (nI 0) := by
  unfold p_X7_in
  by_cases h1 : x < lo
  · rw [if_pos h1]; rfl
  · rw [if_neg h1, if_pos (by rw [Int32.lt_iff_toInt_lt] at h1 ⊢; exact Int.not_le.mp fun q => h ⟨by omega, q⟩)]
    rfl
theorem q_in_nat {x : Int32} {a b : Nat} (hb : b < 2 ^ 31) (h : q_in x a b) : ∃ j : Nat, a ≤ j ∧ j ≤ b ∧ x = nI j := by
  obtain ⟨j, hj, e⟩ := (q_rng (x := x) hb).mp ⟨by have := h.1; omega, h.2⟩
  refine ⟨j, ?_, hj, e⟩
  have := h.1
  rw [e, nI_toInt (by omega)] at this
  omega
theorem q_in_nI {j : Nat} {a b : Int} (hj : j < 2 ^ 31) : q_in (nI j) a b ↔ a ≤ (j : Int) ∧ (j : Int) ≤ b := by
  unfold q_in
  rw [nI_toInt hj]
theorem q_dec (x : Int32) (a b : Int) : q_in x a b ∨ ¬ q_in x a b := Classical.em _
theorem q_us (f : Nat → Int32) (k : Nat) (x : Int32) : upd f k x k = x := by simp [upd]
theorem q_un {f : Nat → Int32} {k j : Nat} {x : Int32} (h : j ≠ k) : upd f k x j = f j := by simp [upd, h]
-- Shop's reads and writes
theorem s_cell {N k : Nat} (h : k < 225) (c : Nat → Int32) : p_X3_cell N (nI k) c = some (c k) := by
  unfold p_X3_cell
  simp only [q_lit]
  rw [if_neg (q_pos (by omega)), if_neg (by rw [nI_leI (by omega) (by omega)]; omega), k_ld_nI h (by omega)]
theorem s_change {N k : Nat} (h : k < 225) (v : Int32) (c : Nat → Int32) : p_X3_change N (nI k) v c = some (upd c k v) := by
  unfold p_X3_change
  simp only [q_lit]
  rw [if_neg (q_pos (by omega)), if_neg (by rw [nI_leI (by omega) (by omega)]; omega), k_st_nI h (by omega)]
theorem s_raise {N k : Nat} (h : k < 225) (v : Int32) (c : Nat → Int32) : p_X3_raise N (nI k) v c = some (upd c k (c k + v)) := by
  unfold p_X3_raise
  simp only [s_cell h, k_c1_some, s_change h]
theorem s_placeOf (N r : Nat) : p_X3_placeOf N (nI r) = some (nI (9 + 27 * r)) := by
  unfold p_X3_placeOf
  simp only [q_lit, pk_mul, nI_add, Nat.mul_comm r 27]
theorem s_setting {N k : Nat} (h : k < 3) (c : Nat → Int32) : p_X3_setting N (nI k) c = some (c (6 + k)) := by
  unfold p_X3_setting
  simp only [q_lit, nI_add]
  rw [s_cell (by omega), k_c1_some]
theorem s_teeth {N r : Nat} (h : r < 8) (c : Nat → Int32) : p_X3_teeth N (nI r) c = some (c (9 + 27 * r)) := by
  unfold p_X3_teeth
  simp only [s_placeOf, k_c1_some, q_lit, nI_add]
  rw [s_cell (by omega), k_c1_some, Nat.add_zero]
theorem s_made {N r : Nat} (h : r < 8) (c : Nat → Int32) : p_X3_stepsSinceWorn N (nI r) c = some (c (10 + 27 * r)) := by
  unfold p_X3_stepsSinceWorn
  simp only [s_placeOf, k_c1_some, q_lit, nI_add]
  rw [s_cell (by omega), k_c1_some, show 9 + 27 * r + 1 = 10 + 27 * r by omega]
theorem s_worn {N r : Nat} (h : r < 8) (c : Nat → Int32) : p_X3_timesWorn N (nI r) c = some (c (11 + 27 * r)) := by
  unfold p_X3_timesWorn
  simp only [s_placeOf, k_c1_some, q_lit, nI_add]
  rw [s_cell (by omega), k_c1_some, show 9 + 27 * r + 2 = 11 + 27 * r by omega]
theorem s_height {N r k : Nat} (h : r < 8) (hk : k < 24) (c : Nat → Int32) : p_X3_height N (nI r) (nI k) c = some (c (12 + 27 * r + k)) := by
  unfold p_X3_height
  simp only [s_placeOf, k_c1_some, q_lit, nI_add]
  rw [s_cell (by omega), k_c1_some, show 9 + 27 * r + 3 + k = 12 + 27 * r + k by omega]
theorem s_shape {N r k : Nat} (h : r < 8) (hk : k < 24) (v : Int32) (c : Nat → Int32) : p_X3_shape N (nI r) (nI k) v c = some (upd c (12 + 27 * r + k) v) := by
  unfold p_X3_shape
  simp only [s_placeOf, k_c1_some, q_lit, nI_add]
  rw [s_change (by omega), k_c1_some, show 9 + 27 * r + 3 + k = 12 + 27 * r + k by omega]
theorem s_ofR {N r k : Nat} (h : r < 8) (hk : k < 27) (us up ue ut um : Int32) (w : Nat → Int32) : p_X7_ofR N (nI r) (nI k) us up ue ut um w = some (w (9 + 27 * r + k)) := by
  unfold p_X7_ofR
  simp only [q_lit, pk_mul, nI_add]
  rw [k_ld_nI (by omega) (by omega)]
