-- THE LAW'S OWN RUN
theorem q_part {x : Int32} {n : Nat} (h : 0 < n) (hn : n < 65536) : p_L_part 20000 x (nI n) = some ((x &&& (2147483647 : Int32)) - (x &&& (2147483647 : Int32)) / nI n * nI n) := by
  unfold p_L_part
  rw [k_nz_nI h (by omega)]
theorem q_drawn {L k : Nat} (xs : Nat → Int32) (hL : L ≤ 260) (hk : k < 26) : ∃ r, p_L_drawn_script 20000 L xs (nI k) = some r := by
  unfold p_L_drawn_script
  have e : Int32.ofNat L = nI L := rfl
  rw [e]
  simp only [q_lit]
  by_cases h0 : L = 0
  · subst h0
    rw [if_pos rfl]
    exact ⟨_, rfl⟩
  · have hlt : k % L < L := Nat.mod_lt _ (by omega)
    rw [if_neg (by rw [nI_eq (by omega) (by omega)]; exact h0), k_nz_nI (by omega) (by omega), pk_rem (by omega) (by omega) (by omega), k_ld_nI hlt (by omega), k_nz_nI (by omega) (by omega), k_nz_nI (by omega) (by omega)]
    exact ⟨_, rfl⟩
theorem k_ldl_nI {β : Type} {n k : Nat} (h : k < n) (hn : n < 65536) (f : Nat → Int64) (g : Int64 → Option β) : k_ldl n f (nI k) g = g (f k) := by
  unfold k_ldl
  rw [if_neg (show ¬ (nI k < 0 ∨ n ≤ (nI k).toNatClampNeg) from vp_in_nI h (by omega)), nI_clamp (by omega)]
theorem k_stl_nI {β : Type} {n k : Nat} (h : k < n) (hn : n < 65536) (f : Nat → Int64) (x : Int64) (g : (Nat → Int64) → Option β) : k_stl n f (nI k) x g = g (vp_updL f k x) := by
  unfold k_stl
  rw [if_neg (show ¬ (nI k < 0 ∨ n ≤ (nI k).toNatClampNeg) from vp_in_nI h (by omega)), nI_clamp (by omega)]
theorem q_updL_s (f : Nat → Int64) (k : Nat) (x : Int64) : vp_updL f k x k = x := by simp [vp_updL]
theorem q_updL_n {f : Nat → Int64} {k j : Nat} {x : Int64} (h : j ≠ k) : vp_updL f k x j = f j := by simp [vp_updL, h]
-- what is known in the law's loop: the states ahead of the acts, and what was seen of them
def LI (a : Nat) (B : Nat → Nat → Int32) (mm : Nat → Nat) (vv : Nat → Int64) : Prop := ∀ j, j < a → ST (B j) (mm j) ∧ vv (a - 1 - j) = z_seen (mm j) (B j)
theorem LI_st {a : Nat} {B : Nat → Nat → Int32} {mm : Nat → Nat} {vv : Nat → Int64} (h : LI a B mm vv) (x : Int64) : LI a B mm (vp_updL vv a x) := by
  intro j hj
  obtain ⟨h1, h2⟩ := h j hj
  exact ⟨h1, by rw [q_updL_n (by omega)]; exact h2⟩
theorem LI_push {a m : Nat} {c : Nat → Int32} {B : Nat → Nat → Int32} {mm : Nat → Nat} {vv : Nat → Int64} (h : LI a B mm vv) (hS : ST c m) : LI (a + 1) (hpush c B) (fun j => if j = 0 then m else mm (j - 1)) (vp_updL vv a (z_seen m c)) := by
  intro j hj
  unfold hpush
  by_cases hj0 : j = 0
  · subst hj0
    rw [if_pos rfl]
    dsimp only
    rw [if_pos rfl, show a + 1 - 1 - 0 = a by omega, q_updL_s]
    exact ⟨hS, rfl⟩
  · rw [if_neg hj0]
    dsimp only
    rw [if_neg hj0]
    obtain ⟨h1, h2⟩ := h (j - 1) (by omega)
    refine ⟨h1, ?_⟩
    rw [q_updL_n (by omega), show a + 1 - 1 - j = a - 1 - (j - 1) by omega]
    exact h2
-- the last loop: all is undone, and the saved state comes back
theorem law_491 {L : Nat} {xs : Nat → Int32} {ss c0 : Nat → Int32} {sf : Int32} (hL : SLC sf ss c0) (pp rn : Nat → Int32) (ra rk rt tl ta tt : Int32) (tp : Nat → Int32) (vv : Nat → Int64) : ∀ (n k f : Nat) (B : Nat → Nat → Int32) (c hs : Nat → Int32), k < n → HI hs f k B →
    f_L_law_491 20000 L xs n (z_seen 2 c0) c (nI f) (nI k) hs sf ss (nI 0) pp ra rk rt rn tl ta tt tp vv = some 1 := by
  intro n
  induction n with
  | zero => intro k f B c hs h; omega
  | succ n ih =>
    intro k f B c hs hk hH
    show b_L_law_491 20000 L xs (f_L_law_491 20000 L xs n) (z_seen 2 c0) c (nI f) (nI k) hs sf ss (nI 0) pp ra rk rt rn tl ta tt tp vv = some 1
    have hk6 := hH.2.1
    have hf7 := hH.1
    unfold b_L_law_491
    simp only [q_lit]
    rw [l_count10, k_c1_some]
    by_cases h0 : k = 0
    · subst h0
      obtain ⟨c', h2, hc⟩ := l_fetch0 (c := c) hL
      have hS' : ST c' 2 := ST_congr hc hL.2.1
      obtain ⟨⟨w, hR⟩, g0, -⟩ := id hS'
      have hr : p_X6_restore 20000 (nI 0) c (nI f) (nI 0) hs sf ss = some (nI 2, c', nI (if f = 6 then 0 else f + 1), nI 1, va_cpy c hs 0 (f * 225) 225) := by
        unfold p_X6_restore
        rw [l_prep hf7, k_c1_some, h2, k_c2_some, s_rec_pos (by omega) hf7 (by omega), k_c3_some]
        rfl
      rw [if_pos (by decide), u_none, k_c4_some, if_pos rfl, hr, k_c5_some, if_pos rfl, s_seen hR g0 (by omega), k_c1_some, z_seen_congr hc, q_cmp_self, if_pos rfl, l_count10, k_c1_some, if_pos rfl]
    · obtain ⟨c', f', hu, hH', -⟩ := u_back (c := c) hH (by omega)
      rw [if_neg (by rw [nI_leI (by omega) (by omega)]; omega), hu, k_c4_some, if_pos (by rw [nI_leI (by omega) (by omega)]; omega)]
      exact ih (k - 1) f' _ c' hs (by omega) hH'
-- undo brings back the states ahead of the acts, the last one first
theorem law_429 {L : Nat} {xs : Nat → Int32} {ss c0 : Nat → Int32} {sf : Int32} (hL : SLC sf ss c0) (pp rn : Nat → Int32) (ra rk rt tl ta tt : Int32) (tp : Nat → Int32) (vv : Nat → Int64) {a : Nat} (ha : a ≤ 26) : ∀ (n i k f m : Nat) (B : Nat → Nat → Int32) (mm : Nat → Nat) (c hs : Nat → Int32), i ≤ a → a - i < n → k + i ≤ 6 → HI hs f k B → ST c m → vv (a - i) = z_seen m c → (∀ j, j < a - i → ST (B j) (mm j) ∧ vv (a - i - 1 - j) = z_seen (mm j) (B j)) →
    f_L_law_429 20000 L xs n (nI a) (z_seen 2 c0) (nI i) c (nI f) (nI k) hs sf ss (nI 0) pp ra rk rt rn tl ta tt tp vv = some 1 := by
  intro n
  induction n with
  | zero => intro i k f m B mm c hs h1 h2; omega
  | succ n ih =>
    intro i k f m B mm c hs hia hn hki hH hS hv hB
    show b_L_law_429 20000 L xs (f_L_law_429 20000 L xs n) (nI a) (z_seen 2 c0) (nI i) c (nI f) (nI k) hs sf ss (nI 0) pp ra rk rt rn tl ta tt tp vv = some 1
    unfold b_L_law_429
    simp only [q_lit]
    rw [l_count10, k_c1_some]
    have hend : f_L_law_491 20000 L xs 20000 (z_seen 2 c0) c (nI f) (nI k) hs sf ss (nI 0) pp ra rk rt rn tl ta tt tp vv = some (nI 1) := law_491 hL pp rn ra rk rt tl ta tt tp vv 20000 k f B c hs (by omega) hH
    by_cases h0 : k = 0
    · rw [if_pos (by rw [nI_leI (by omega) (by omega)]; omega)]
      exact hend
    · rw [if_neg (by rw [nI_leI (by omega) (by omega)]; omega)]
      by_cases hi : i = a
      · rw [if_pos (by rw [nI_leI (by omega) (by omega)]; omega)]
        exact hend
      · obtain ⟨⟨w, hR⟩, g0, g8⟩ := id hS
        obtain ⟨c', f', hu, hH', hc⟩ := u_back (c := c) hH (by omega)
        obtain ⟨hS0, hv0⟩ := hB 0 (by omega)
        rw [if_neg (by rw [nI_leI (by omega) (by omega)]; omega), k_c1_some, if_neg (by rw [nI_ltI (by omega) (by omega)]; omega), s_seen hR g0 g8, k_c1_some, pk_sub (by omega), k_ldl_nI (by omega) (by omega), hv, q_cmp_self, if_pos rfl, hu, k_c4_some, pk_sub (by omega), if_pos rfl, k_let_eq, nI_add]
        refine ih (i + 1) (k - 1) f' (mm 0) (fun j => B (j + 1)) (fun j => mm (j + 1)) c' hs (by omega) (by omega) (by omega) hH' (ST_congr hc hS0) ?_ (fun j hj => ?_)
        · rw [z_seen_congr hc, ← hv0, show a - i - 1 - 0 = a - (i + 1) by omega]
        · obtain ⟨q1, q2⟩ := hB (j + 1) (by omega)
          exact ⟨q1, by rw [← q2, show a - i - 1 - (j + 1) = a - (i + 1) - 1 - j by omega]⟩
-- behind one act
theorem law_360 {L i a m f : Nat} {xs : Nat → Int32} {ss c hs : Nat → Int32} {sf : Int32} {B : Nat → Nat → Int32} {mm : Nat → Nat} {vv : Nat → Int64} {pp rn : Nat → Int32} {ra rk rt : Int32}
    {K : Int32 → Int64 → Int32 → (Nat → Int32) → Int32 → Int32 → (Nat → Int32) → Int32 → (Nat → Int32) → Int32 → (Nat → Int32) → Int32 → Int32 → Int32 → (Nat → Int32) → Int32 → Int32 → Int32 → (Nat → Int32) → (Nat → Int64) → Option Int32} {h4 : Int64} (ha : a ≤ i) (hi : i < 26) (hS : ST c m) (hm : 2 ≤ m) (hH : HI hs f (min 6 (a + 2)) B) (hB : LI a B mm vv)
    (hK : ∀ (a' m' f' : Nat) (B' : Nat → Nat → Int32) (mm' : Nat → Nat) (vv' : Nat → Int64) (c' hs' : Nat → Int32) (tl ta tt : Int32) (tp : Nat → Int32), a' ≤ i + 1 → ST c' m' → 2 ≤ m' → HI hs' f' (min 6 (a' + 2)) B' → LI a' B' mm' vv' → K (nI a') h4 (nI (i + 1)) c' (nI f') (nI (min 6 (a' + 2))) hs' sf ss (nI 0) pp ra rk rt rn tl ta tt tp vv' = some 1)
    {r : Int32} {c' : Nat → Int32} {hf' hl' : Int32} {hs' : Nat → Int32} (hT : STEP c f (min 6 (a + 2)) hs r c' hf' hl' hs') (x9 : Int32) (hx9 : x9 = nI (min 6 (a + 2))) (tl ta tt : Int32) (tp : Nat → Int32) :
    b_L_law_360 20000 L xs K (nI a) h4 (nI i) x9 r c' hf' hl' hs' sf ss (nI 0) pp ra rk rt rn tl ta tt tp (vp_updL vv a (z_seen m c)) = some 1 := by
  obtain ⟨rfl, ⟨e, e1, e2, rfl, rfl, rfl, rfl⟩ | ⟨v, m', hv, rfl, hS', hm', rfl, rfl⟩⟩ := hT
  · obtain ⟨⟨w, hR⟩, g0, g8⟩ := id hS
    unfold b_L_law_360
    simp only [q_lit]
    rw [if_neg (by rw [q_epn (by omega) (by omega)]; omega), l_count10, k_c1_some, if_pos hx9.symm, s_seen hR g0 g8, k_c1_some, k_ldl_nI (by omega) (by omega), q_updL_s, q_cmp_self, if_pos rfl, if_neg (by rw [q_epn (by omega) (by omega)]; omega), k_let_eq, k_let_eq, nI_add, nI_add]
    exact hK a m f B mm _ c' _ tl ta tt tp (by omega) hS hm (HI_prep hH) (LI_st hB _)
  · have hvp : nI 0 ≤ nI v := by rw [nI_leI (by omega) hv]; omega
    unfold b_L_law_360
    simp only [q_lit]
    rw [if_pos hvp, if_pos hvp, k_let_eq, k_let_eq, nI_add, nI_add]
    have hr := HI_rec (c := c) hH
    have e : (if min 6 (a + 2) = 6 then 6 else min 6 (a + 2) + 1) = min 6 (a + 1 + 2) := by split <;> omega
    rw [e] at hr ⊢
    exact hK (a + 1) m' _ _ _ _ c' _ tl ta tt tp (by omega) hS' hm' hr (LI_push hB hS)
-- the loop
theorem law_74 {L : Nat} (hL260 : L ≤ 260) {xs : Nat → Int32} {ss c0 : Nat → Int32} {sf : Int32} (hL : SLC sf ss c0) (pp rn : Nat → Int32) (ra rk rt : Int32) : ∀ (n i a m f : Nat) (B : Nat → Nat → Int32) (mm : Nat → Nat) (vv : Nat → Int64) (c hs : Nat → Int32) (tl ta tt : Int32) (tp : Nat → Int32), i ≤ 26 → 26 - i < n → a ≤ i → ST c m → 2 ≤ m → HI hs f (min 6 (a + 2)) B → LI a B mm vv →
    f_L_law_74 20000 L xs n (nI a) (z_seen 2 c0) (nI i) c (nI f) (nI (min 6 (a + 2))) hs sf ss (nI 0) pp ra rk rt rn tl ta tt tp vv = some 1 := by
  intro n
  induction n with
  | zero => intro i a m f B mm vv c hs tl ta tt tp h1 h2; omega
  | succ n ih =>
    intro i a m f B mm vv c hs tl ta tt tp hi hn ha hS hm hH hB
    show b_L_law_74 20000 L xs (f_L_law_74 20000 L xs n) (nI a) (z_seen 2 c0) (nI i) c (nI f) (nI (min 6 (a + 2))) hs sf ss (nI 0) pp ra rk rt rn tl ta tt tp vv = some 1
    obtain ⟨⟨w, hR⟩, g0, g8⟩ := id hS
    have hf7 := hH.1
    have hk6 := hH.2.1
    have es : ∀ hf hl : Int32, p_L_seen 20000 c hf hl (nI 0) = some (z_seen m c) := fun hf hl => s_seen hR g0 g8 hf hl (nI 0)
    unfold b_L_law_74
    simp only [q_lit]
    by_cases h26 : i = 26
    · rw [if_pos (by rw [nI_leI (by omega) (by omega)]; omega), es, k_c1_some, k_stl_nI (by omega) (by omega), refused_ok hR g0 g8 hm hf7, k_c17_some, if_neg (by decide)]
      refine law_429 hL pp rn _ _ _ tl ta tt tp _ (by omega) 20000 0 (min 6 (a + 2)) f m B mm c _ (by omega) (by omega) (by omega) (HI_prep hH) hS ?_ (fun j hj => ?_)
      · rw [Nat.sub_zero, q_updL_s]
      · have := (LI_st hB (z_seen m c)) j (by omega)
        rw [Nat.sub_zero]
        exact this
    · obtain ⟨x, ex⟩ := q_drawn xs hL260 (show i < 26 by omega)
      have k360 : ∀ {r : Int32} {c' : Nat → Int32} {hf' hl' : Int32} {hs' : Nat → Int32}, STEP c f (min 6 (a + 2)) hs r c' hf' hl' hs' → ∀ (tl ta tt : Int32) (tp : Nat → Int32), b_L_law_360 20000 L xs (f_L_law_74 20000 L xs n) (nI a) (z_seen 2 c0) (nI i) (nI (min 6 (a + 2))) r c' hf' hl' hs' sf ss (nI 0) pp ra rk rt rn tl ta tt tp (vp_updL vv a (z_seen m c)) = some 1 := by
        intro r c' hf' hl' hs' hT tl ta tt tp
        exact law_360 ha (by omega) hS hm hH hB (fun a' m' f' B' mm' vv' c' hs' tl ta tt tp b1 b2 b3 b4 b5 => ih (i + 1) a' m' f' B' mm' vv' c' hs' tl ta tt tp (by omega) (by omega) b1 b2 b3 b4 b5) hT _ rfl tl ta tt tp
      rw [if_neg (by rw [nI_leI (by omega) (by omega)]; omega), ex, k_c1_some, q_part (by omega) (by omega), k_c1_some, es, k_c1_some, k_stl_nI (by omega) (by omega), l_count10, k_c1_some, q_part (by omega) (by omega), k_c1_some, q_part (by omega) (by omega), k_c1_some]
      generalize (x &&& (2147483647 : Int32)) - (x &&& (2147483647 : Int32)) / nI 11 * nI 11 = kind
      split
      · rw [q_part (by omega) (by omega), k_c1_some, q_part (by omega) (by omega), k_c1_some]
        obtain ⟨r, c', hf', hl', hs', h1, h2⟩ := act_roller (hs := hs) hS hm hf7 hk6 _ _
        rw [h1, k_c5_some]
        exact k360 h2 _ _ _ _
      split
      · split
        · rw [q_part (by omega) (by omega), k_c1_some, q_part (by omega) (by omega), k_c1_some]
          obtain ⟨r, c', hf', hl', hs', h1, h2⟩ := act_card (hs := hs) hS hm hf7 hk6 _ _
          rw [h1, k_c5_some]
          exact k360 h2 _ _ _ _
        split
        · rw [q_part (by omega) (by omega), k_c1_some]
          obtain ⟨r, c', hf', hl', hs', h1, h2⟩ := act_set (hs := hs) hS hm hf7 hk6 _ _
          rw [h1, k_c5_some]
          exact k360 h2 _ _ _ _
        split
        · have hrest : ∀ y : Int32, k_c5 (p_X6_restore 20000 y c (nI f) (nI (min 6 (a + 2))) hs sf ss) (fun r c' hf' hl' hs' => b_L_law_360 20000 L xs (f_L_law_74 20000 L xs n) (nI a) (z_seen 2 c0) (nI i) (nI (min 6 (a + 2))) r c' hf' hl' hs' sf ss (nI 0) pp ra rk rt rn tl ta tt tp (vp_updL vv a (z_seen m c))) = some 1 := by
            intro y
            obtain ⟨r, c', hf', hl', hs', h1, h2⟩ := act_restore (c := c) (hs := hs) hL hf7 hk6 y
            rw [h1, k_c5_some]
            exact k360 h2 _ _ _ _
          split
          · rw [l_count0 (by omega), k_c1_some, g0]
            split
            · rw [q_part (by omega) (by omega), k_c1_some]
              exact hrest _
            · rename_i hlt
              obtain ⟨r, c', hf', hl', hs', h1, h2⟩ := act_melt (hs := hs) hS (by rw [nI_leI (by omega) (by omega)] at hlt; omega) hf7 hk6 _
              rw [h1, k_c5_some]
              exact k360 h2 _ _ _ _
          · rw [q_part (by omega) (by omega), k_c1_some]
            exact hrest _
        · rw [q_part (by omega) (by omega), k_c1_some, q_part (by omega) (by omega), k_c1_some, q_part (by omega) (by omega), k_c1_some, q_part (by omega) (by omega), k_c1_some]
          obtain ⟨r, c', hf', hl', hs', tl', ta', tt', tp', h1, h2⟩ := act_run (hs := hs) hS hm hf7 hk6 _ _ _ _ _ _ tl ta tt tp
          rw [h1, k_c9_some]
          exact k360 h2 _ _ _ _
      · rw [q_part (by omega) (by omega), k_c1_some, q_part (by omega) (by omega), k_c1_some]
        obtain ⟨r, c', hf', hl', hs', h1, h2⟩ := act_file (hs := hs) hS hm hf7 hk6 _ _ _
        rw [h1, k_c5_some]
        exact k360 h2 _ _ _ _
-- the start
def c_new : Nat → Int32 := upd (upd (upd (upd (upd (fun _ => 0) 1 (5 : Int32)) 2 (5 : Int32)) 6 (6 : Int32)) 7 (4 : Int32)) 8 (20 : Int32)
theorem ST_new : ST c_new 0 := by
  refine ⟨⟨upd (upd (upd (upd (upd (fun _ => 0) 0 (6 : Int32)) 1 (4 : Int32)) 2 (20 : Int32)) 4 (5 : Int32)) 5 (5 : Int32), ⟨0, by omega, rfl, rfl, fun r hr => by omega⟩, 5, 5, 6, 4, 20, ?_⟩, rfl, by omega⟩
  exact ⟨⟨by omega, by omega, rfl, rfl⟩, ⟨by omega, rfl, rfl⟩, ⟨rfl, rfl, rfl⟩, ⟨by omega, rfl, rfl⟩, ⟨by omega, rfl, rfl⟩, ⟨by omega, by omega, rfl, rfl⟩⟩
theorem law_ok {L : Nat} (hL : L ≤ 260) (xs : Nat → Int32) : b_L_law_35 20000 L xs 0 (upd (upd (upd (upd (upd (fun _ => 0) 1 (5 : Int32)) 2 (5 : Int32)) 6 (6 : Int32)) 7 (4 : Int32)) 8 (20 : Int32)) (0 : Int32) (0 : Int32) (fun _ => 0) (0 : Int32) (fun _ => 0) (0 : Int32) (fun _ => 0) (0 : Int32) (0 : Int32) (0 : Int32) (fun _ => 0) (0 : Int32) (0 : Int32) (0 : Int32) (fun _ => 0) (fun _ => 0) = some 1 := by
  show b_L_law_35 20000 L xs 0 c_new (0 : Int32) (0 : Int32) (fun _ => 0) (0 : Int32) (fun _ => 0) (0 : Int32) (fun _ => 0) (0 : Int32) (0 : Int32) (0 : Int32) (fun _ => 0) (0 : Int32) (0 : Int32) (0 : Int32) (fun _ => 0) (fun _ => 0) = some 1
  obtain ⟨c1, h1, hS1, -⟩ := o_rollerC (t := 3) (v := nI 1) ST_new (by omega) (by omega) (by omega) (by unfold q_in; decide)
  obtain ⟨c2, h2, hS2, -⟩ := o_rollerC (t := 5) (v := -nI 1) hS1 (by omega) (by omega) (by omega) (by unfold q_in; decide)
  have r1 : ∀ hs : Nat → Int32, p_X6_roller 20000 (nI 3) (nI 1) c_new (nI 0) (nI 0) hs = some (nI 0, c1, nI 1, nI 1, va_cpy c_new hs 0 (0 * 225) 225) := by
    intro hs
    unfold p_X6_roller
    rw [l_prep (by omega), k_c1_some, h1, k_c2_some, s_rec_pos (by omega) (by omega) (by omega), k_c3_some]
    rfl
  have r2 : ∀ hs : Nat → Int32, p_X6_roller 20000 (nI 5) (-nI 1) c1 (nI 1) (nI 1) hs = some (nI 1, c2, nI 2, nI 2, va_cpy c1 hs 0 (1 * 225) 225) := by
    intro hs
    unfold p_X6_roller
    rw [l_prep (by omega), k_c1_some, h2, k_c2_some, s_rec_pos (by omega) (by omega) (by omega), k_c3_some]
    rfl
  have s1 : ∀ ss : Nat → Int32, p_X6_save 20000 (nI 0) c2 (nI 0) ss = some (nI 2, nI 1, va_cpy c2 ss 0 (0 * 225) 225) := by
    intro ss
    unfold p_X6_save p_X4_keep
    rw [s_outside_t (show q_in (nI 0) (0 : Int32).toInt (1 : Int32).toInt from by unfold q_in; decide), k_c1_some]
    simp only [q_lit]
    rw [if_pos trivial, s_copyToL (by omega), k_c1_some, k_let_eq, s_cell (by omega), k_c1_some, k_c3_some, hS2.2.1]
    rfl
  obtain ⟨⟨w, hR⟩, g0, g8⟩ := id hS2
  have hSL : SLC (nI 1) (va_cpy c2 (fun _ => nI 0) 0 (0 * 225) 225) c2 := by
    refine ⟨rfl, hS2, fun i hi => ?_⟩
    have := cpy_at (f := c2) (g := fun _ => nI 0) (a := 0) (b := 0 * 225) hi
    rw [Nat.zero_mul, Nat.zero_add] at this
    rw [Nat.zero_mul]; exact this
  unfold b_L_law_35
  simp only [q_lit]
  rw [r1, k_c5_some, if_pos rfl, r2, k_c5_some, if_pos rfl, s1, k_c3_some, if_pos rfl, s_seen hR g0 g8, k_c1_some]
  have hH := HI_rec (c := c1) (HI_rec (c := c_new) (HI_0 (fun _ => nI 0) (fun _ => c_new)))
  exact law_74 hL hSL (fun _ => nI 0) (fun _ => nI 0) (nI 0) (nI 0) (nI 0) 20000 0 0 2 2 _ (fun _ => 0) _ c2 _ (nI 0) (nI 0) (nI 0) (fun _ => nI 0) (by omega) (by omega) (by omega) hS2 (by omega) hH (fun j hj => by omega)
