-- the pad: put and wipe
theorem h_sh : ∀ k, k < 64 → (((nI k).toInt64.toUInt64 &&& Int64.toUInt64 63).toBitVec % 64).toNat = k := by decide +kernel
theorem q_ushr {k : Nat} (hk : k < 64) (x : Int64) : k_ushr x (nI k) = Int64.ofBitVec (x.toBitVec >>> k) := by
  apply Int64.toBitVec_inj.mp
  show x.toBitVec >>> (((nI k).toInt64.toUInt64 &&& Int64.toUInt64 63).toBitVec % 64) = x.toBitVec >>> k
  rw [BitVec.ushiftRight_eq', h_sh k hk]
theorem q_ushr8 {k : Nat} (hk : k < 64) (x : Int64) : k_ushr (k_ushr x (nI k)) (nI 8) = Int64.ofBitVec (x.toBitVec >>> (k + 8)) := by
  rw [q_ushr hk, q_ushr (by omega)]
  show Int64.ofBitVec ((x.toBitVec >>> k) >>> 8) = _
  rw [BitVec.shiftRight_add]
theorem q_l255 : ∀ i, i < 64 → (255 : Int64).toBitVec.getLsbD i = decide (i < 8) := by decide +kernel
theorem q_i255 : ∀ i, i < 32 → (255 : Int32).toBitVec.getLsbD i = decide (i < 8) := by decide +kernel
theorem q_low (y : Int64) : (y &&& (255 : Int64)).toInt32 = y.toInt32 &&& (255 : Int32) := by
  apply Int32.toBitVec_inj.mp
  rw [Int32.toBitVec_and, Int64.toBitVec_toInt32, Int64.toBitVec_toInt32]
  apply BitVec.eq_of_getLsbD_eq
  intro i hi
  rw [BitVec.getLsbD_and, BitVec.getLsbD_signExtend, BitVec.getLsbD_signExtend, q_i255 i hi, if_pos (by omega), if_pos (by omega), Int64.toBitVec_and, BitVec.getLsbD_and, q_l255 i (by omega)]
  simp [hi]
theorem q_low0 (y : Int64) : (y &&& (255 : Int64)) = 0 ↔ y.toInt32 &&& (255 : Int32) = nI 0 := by
  constructor
  · intro h
    rw [← q_low, h]
    rfl
  · intro h
    apply Int64.toBitVec_inj.mp
    apply BitVec.eq_of_getLsbD_eq
    intro i hi
    rw [Int64.toBitVec_and, BitVec.getLsbD_and, q_l255 i hi]
    by_cases h8 : i < 8
    · have e := congrArg (fun z : Int32 => z.toBitVec.getLsbD i) h
      rw [Int32.toBitVec_and, BitVec.getLsbD_and, Int64.toBitVec_toInt32, BitVec.getLsbD_signExtend, if_pos (by omega), q_i255 i (by omega)] at e
      rw [show (nI 0).toBitVec = 0#32 from rfl, BitVec.getLsbD_zero] at e
      rw [show (0 : Int64).toBitVec = 0#64 from rfl, BitVec.getLsbD_zero]
      simpa [show i < 32 by omega] using e
    · rw [show (0 : Int64).toBitVec = 0#64 from rfl, BitVec.getLsbD_zero]
      simp [h8]
theorem q_cmp0 (y : Int64) : lg_cmp y 0 = nI 0 ↔ y = 0 := by
  unfold lg_cmp
  by_cases h1 : y > 0
  · rw [if_pos h1]
    exact ⟨fun h => absurd h (by decide), fun h => absurd h1 (by rw [h]; decide)⟩
  · rw [if_neg h1]
    by_cases h2 : y = 0
    · rw [if_pos h2]
      exact ⟨fun _ => h2, fun _ => rfl⟩
    · rw [if_neg h2]
      exact ⟨fun h => absurd h (by decide), fun h => absurd h h2⟩
def q_by (x : Int64) (k : Nat) : Int32 := (k_ushr x (nI (8 * k))).toInt32 &&& (255 : Int32)
def q_rest (x : Int64) (k : Nat) : Int64 := Int64.ofBitVec (x.toBitVec >>> (8 * k))
theorem q_rest_0 (x : Int64) : q_rest x 0 = x := by
  apply Int64.toBitVec_inj.mp
  show x.toBitVec >>> 0 = x.toBitVec
  rw [BitVec.ushiftRight_zero]
theorem q_rest_8 (x : Int64) : q_rest x 8 = 0 := by
  apply Int64.toBitVec_inj.mp
  show x.toBitVec >>> 64 = 0#64
  apply BitVec.eq_of_getLsbD_eq
  intro i hi
  rw [BitVec.getLsbD_ushiftRight, BitVec.getLsbD_of_ge _ _ (by omega), BitVec.getLsbD_zero]
theorem q_rest_step {k : Nat} (hk : k < 8) (x : Int64) : k_ushr (q_rest x k) (nI 8) = q_rest x (k + 1) := by
  have e : k_ushr x (nI (8 * k)) = q_rest x k := q_ushr (by omega) x
  rw [← e, q_ushr8 (by omega)]
  rfl
theorem q_rest_u {k : Nat} (hk : k < 8) (x : Int64) : k_ushr x (nI (8 * k)) = q_rest x k := q_ushr (by omega) x
theorem q_rest_b {k : Nat} (hk : k < 8) (x : Int64) : (q_rest x k &&& (255 : Int64)).toInt32 = q_by x k := by
  rw [q_low, ← q_rest_u hk]
  rfl
theorem q_rest_b0 {k : Nat} (hk : k < 8) (x : Int64) : lg_cmp (q_rest x k &&& (255 : Int64)) 0 = nI 0 ↔ q_by x k = nI 0 := by
  rw [q_cmp0, q_low0, ← q_rest_u hk]
  rfl
theorem s_codeIn (N : Nat) {k : Nat} (hk : k < 8) (x : Int64) : p_X1_codeIn N x (nI k) = some (q_by x k) := by
  unfold p_X1_codeIn q_by
  rw [show (8 : Int32) * nI k = nI (8 * k) from by simp only [q_lit, pk_mul]]
theorem s_put_bad {N : Nat} (x : Int64) (us up ue ut um : Int32) (ux : Nat → Int32) : ∀ n k : Nat, ∀ y : Int64, k ≤ 8 → 8 - k < n → f_X7_put_8 N n x (nI k) y (nI 0) us up ue ut um ux = some (-nI 2, up, ux) := by
  intro n
  induction n with
  | zero => intro k y h1 h2; omega
  | succ n ih =>
    intro k y h1 h2
    show b_X7_put_8 N (f_X7_put_8 N n) x (nI k) y (nI 0) us up ue ut um ux = _
    unfold b_X7_put_8
    simp only [q_lit, k_let_eq, nI_add]
    by_cases hk : k = 8
    · subst hk
      rw [if_pos (by decide), if_neg (by decide), if_pos trivial]
    · rw [if_neg (by rw [nI_leI (by omega) (by omega)]; omega)]
      by_cases hb : lg_cmp (y &&& (255 : Int64)) (0 : Int64) = nI 0
      · rw [if_pos hb]
        by_cases h0 : nI k = nI 0
        · rw [if_pos h0]
        · rw [if_neg h0, if_pos trivial]
      · rw [if_neg hb, if_pos trivial]
        exact ih (k + 1) _ (by omega) (by omega)
theorem s_put_am {N : Nat} (hN : 20000 ≤ N) (x : Int64) (us up ue ut um : Int32) (ux : Nat → Int32) : ∀ n k : Nat, k ≤ 8 → 8 - k < n → (∀ i, i < k → q_in (q_by x i) 33 126) →
    (∃ j, 1 ≤ j ∧ j ≤ 8 ∧ (∀ i, i < j → q_in (q_by x i) 33 126) ∧ f_X1_amountOf_2 N n x (nI k) = some (nI j) ∧ f_X7_put_8 N n x (nI k) (q_rest x k) (nI 1) us up ue ut um ux = (if up + nI j ≤ nI 80 then f_X7_put_105 N N x (nI j - nI 1) us up ue ut um ux else some (-nI 4, up, ux))) ∨
    (f_X1_amountOf_2 N n x (nI k) = some (nI 0) ∧ f_X7_put_8 N n x (nI k) (q_rest x k) (nI 1) us up ue ut um ux = some (-nI 2, up, ux)) := by
  intro n
  induction n with
  | zero => intro k h1 h2; omega
  | succ n ih =>
    intro k h1 h2 hg
    show (∃ j, 1 ≤ j ∧ j ≤ 8 ∧ (∀ i, i < j → q_in (q_by x i) 33 126) ∧ b_X1_amountOf_2 N (f_X1_amountOf_2 N n) x (nI k) = some (nI j) ∧ b_X7_put_8 N (f_X7_put_8 N n) x (nI k) (q_rest x k) (nI 1) us up ue ut um ux = _) ∨ (b_X1_amountOf_2 N (f_X1_amountOf_2 N n) x (nI k) = some (nI 0) ∧ b_X7_put_8 N (f_X7_put_8 N n) x (nI k) (q_rest x k) (nI 1) us up ue ut um ux = some (-nI 2, up, ux))
    unfold b_X1_amountOf_2 b_X7_put_8 b_X1_amountOf_39
    by_cases hk : k = 8
    · subst hk
      refine Or.inl ⟨8, by omega, by omega, hg, ?_, ?_⟩
      · simp only [q_lit]
        rw [if_pos (by decide), if_pos trivial]
      · simp only [q_lit, k_let_eq]
        rw [if_pos (by decide), if_neg (by decide), if_neg (by decide), q_rest_8, if_pos (by decide)]
    · have hk8 : ¬ nI 8 ≤ nI k := by rw [nI_leI (by omega) (by omega)]; omega
      have hk9 : ¬ nI k = nI 8 := by rw [nI_eq (by omega) (by omega)]; omega
      have hru := q_rest_u (show k < 8 by omega) x
      have hrb := q_rest_b (show k < 8 by omega) x
      have hrb0 := q_rest_b0 (show k < 8 by omega) x
      have hrs := q_rest_step (show k < 8 by omega) x
      simp only [q_lit, k_let_eq, pk_mul, nI_add, s_codeIn N (show k < 8 by omega), k_c1_some, hru, hrs]
      simp only [← q_lit, hrb]
      simp only [q_lit]
      rw [if_neg hk8, if_neg hk8, if_neg hk9]
      have hrb1 : lg_cmp (q_rest x k &&& (OfNat.ofNat 255 : Int64)) 0 = nI 0 ↔ q_by x k = nI 0 := hrb0
      by_cases hb : q_by x k = nI 0
      · rw [if_pos hb, if_pos (hrb1.mpr hb)]
        by_cases hr : lg_cmp (q_rest x k) 0 = nI 0
        · rw [if_pos hr, if_pos hr, if_neg (show ¬ nI 1 = nI 0 by decide)]
          by_cases h0 : k = 0
          · subst h0
            rw [if_pos rfl]
            exact Or.inr ⟨rfl, rfl⟩
          · rw [if_neg (show ¬ nI k = nI 0 by rw [nI_eq (by omega) (by omega)]; omega)]
            exact Or.inl ⟨k, by omega, h1, hg, rfl, rfl⟩
        · rw [if_neg hr, if_neg hr, if_neg (show ¬ nI 1 = nI 0 by decide)]
          refine Or.inr ⟨rfl, ?_⟩
          by_cases h0 : nI k = nI 0
          · rw [if_pos h0]
          · rw [if_neg h0]
      · rw [if_neg hb, if_neg (fun h => hb (hrb1.mp h)), if_neg (show ¬ nI 1 = nI 0 by decide)]
        rcases q_dec (q_by x k) 33 126 with hq | hq
        · rw [s_outside_t (show q_in (q_by x k) (nI 33).toInt (nI 126).toInt from hq), s_in_t (show q_in (q_by x k) (nI 33).toInt (nI 126).toInt from hq), k_c1_some, k_c1_some, if_pos rfl, if_neg (by decide)]
          refine ih (k + 1) (by omega) (by omega) (fun i hi => ?_)
          by_cases hik : i = k
          · rw [hik]; exact hq
          · exact hg i (by omega)
        · rw [s_outside_f (show ¬ q_in (q_by x k) (nI 33).toInt (nI 126).toInt from hq), s_in_f (show ¬ q_in (q_by x k) (nI 33).toInt (nI 126).toInt from hq), k_c1_some, k_c1_some, if_neg (by decide), if_pos rfl]
          exact Or.inr ⟨rfl, s_put_bad x us up ue ut um ux n (k + 1) _ (by omega) (by omega)⟩
def PD (pl : Int32) (pp : Nat → Int32) (up : Int32) (ux : Nat → Int32) (n : Nat) : Prop := n ≤ 80 ∧ pl = nI n ∧ up = nI n ∧ ∀ i, i < n → pp i = ux i ∧ q_in (ux i) 33 126
theorem q_m1 (i : Nat) : nI i + -nI 1 = nI i - nI 1 := (Int32.sub_eq_add_neg _ _).symm
theorem q_s1 (i : Nat) : nI (i + 1) - nI 1 = nI i := by rw [pk_sub (by omega), Nat.add_sub_cancel]
theorem s_put_lp {N : Nat} (x : Int64) (us ue ut um : Int32) : ∀ n i a : Nat, ∀ pp ux : Nat → Int32, i ≤ 8 → i < n → a + i ≤ 80 → (∀ j, j < i → q_in (q_by x j) 33 126) → (∀ j, j < a → pp j = ux j ∧ q_in (ux j) 33 126) →
    ∃ pp' ux', f_X1_append_31 N n x (nI i - nI 1) (nI a) pp = some (nI (a + i), nI (a + i), pp') ∧ f_X7_put_105 N n x (nI i - nI 1) us (nI a) ue ut um ux = some (nI (a + i), nI (a + i), ux') ∧ (∀ j, j < a + i → pp' j = ux' j ∧ q_in (ux' j) 33 126) := by
  intro n
  induction n with
  | zero => intro i a pp ux h1 h2; omega
  | succ n ih =>
    intro i a pp ux h1 h2 h3 hb hp
    show ∃ pp' ux', b_X1_append_31 N (f_X1_append_31 N n) x (nI i - nI 1) (nI a) pp = _ ∧ b_X7_put_105 N (f_X7_put_105 N n) x (nI i - nI 1) us (nI a) ue ut um ux = _ ∧ _
    unfold b_X1_append_31 b_X7_put_105
    simp only [q_lit, k_let_eq]
    by_cases hi : i = 0
    · subst hi
      refine ⟨pp, ux, ?_, ?_, hp⟩
      · rw [if_pos (by decide)]; rfl
      · rw [if_pos (by decide)]; rfl
    · obtain ⟨i, rfl⟩ : ∃ j, i = j + 1 := ⟨i - 1, by omega⟩
      have hby := q_rest_b (show i < 8 by omega) x
      obtain ⟨pp', ux', e1, e2, e3⟩ := ih i (a + 1) (upd pp a (q_by x i)) (upd ux a (q_by x i)) (by omega) (by omega) (by omega) (fun j hj => hb j (by omega)) (fun j hj => by
        by_cases hja : j = a
        · subst hja; rw [q_us, q_us]; exact ⟨rfl, hb i (by omega)⟩
        · rw [q_un hja, q_un hja]; exact hp j (by omega))
      refine ⟨pp', ux', ?_, ?_, ?_⟩
      · rw [q_s1, if_neg (q_pos (by omega)), s_codeIn N (by omega), k_c1_some]
        unfold p_X1_add
        simp only [q_lit, k_let_eq]
        rw [if_neg (q_pos (by omega)), if_neg (by rw [nI_leI (by omega) (by omega)]; omega), k_st_nI (by omega) (by omega), nI_add, k_c2_some, q_m1, e1, show a + 1 + i = a + (i + 1) by omega]
      · rw [q_s1, if_neg (q_pos (by omega)), k_st_nI (by omega) (by omega), pk_mul, q_rest_u (by omega)]
        simp only [← q_lit]
        rw [hby]
        simp only [q_lit]
        rw [nI_add, q_m1, e2, show a + 1 + i = a + (i + 1) by omega]
      · intro j hj
        exact e3 j (by omega)
theorem e_put {N n : Nat} {pl up : Int32} {pp ux : Nat → Int32} (hN : 20000 ≤ N) (hP : PD pl pp up ux n) (x : Int64) (us ue ut um : Int32) :
    ∃ r pl' pp' up' ux' n', p_X6_put N x pl pp = some (r, pl', pp') ∧ p_X7_put N x us up ue ut um ux = some (r, up', ux') ∧ PD pl' pp' up' ux' n' := by
  obtain ⟨h1, rfl, rfl, h4⟩ := id hP
  unfold p_X6_put p_X1_append p_X1_amountOf p_X7_put
  have hm := s_put_am (N := N) hN x us (nI n) ue ut um ux N 0 (by omega) (by omega) (fun i hi => by omega)
  rw [q_rest_0] at hm
  simp only [q_lit]
  rcases hm with ⟨j, j1, j8, hj, e1, e2⟩ | ⟨e1, e2⟩
  · rw [e1, e2, k_c1_some, if_neg (by rw [nI_eq (by omega) (by omega)]; omega), nI_add]
    by_cases hf : n + j ≤ 80
    · rw [if_pos (by rw [nI_leI (by omega) (by omega)]; omega), if_pos (by rw [nI_leI (by omega) (by omega)]; omega), k_let_eq]
      obtain ⟨pp', ux', l1, l2, l3⟩ := s_put_lp (N := N) x us ue ut um N j n pp ux j8 (by omega) hf hj h4
      refine ⟨nI (n + j), nI (n + j), pp', nI (n + j), ux', n + j, ?_, l2, hf, rfl, rfl, l3⟩
      rw [l1, k_c3_some]
    · rw [if_neg (by rw [nI_leI (by omega) (by omega)]; omega), if_neg (by rw [nI_leI (by omega) (by omega)]; omega), k_c3_some]
      exact ⟨-nI 4, nI n, pp, nI n, ux, n, rfl, rfl, hP⟩
  · rw [e1, e2, k_c1_some, if_pos rfl, k_c3_some]
    exact ⟨-nI 2, nI n, pp, nI n, ux, n, rfl, rfl, hP⟩
theorem e_wipe {N n : Nat} {pl up : Int32} {pp ux : Nat → Int32} (hP : PD pl pp up ux n) (us ue ut um : Int32) :
    ∃ r pl' up', p_X6_wipe N pl = some (r, pl') ∧ p_X7_wipe N us up ue ut um = some (r, up') ∧ PD pl' pp up' ux 0 := by
  obtain ⟨h1, rfl, rfl, h4⟩ := hP
  refine ⟨nI n, nI 0, nI 0, ?_, ?_, by omega, rfl, rfl, fun i hi => by omega⟩
  · unfold p_X6_wipe p_X1_clear; simp only [q_lit, k_c2_some]
  · unfold p_X7_wipe; simp only [q_lit]
