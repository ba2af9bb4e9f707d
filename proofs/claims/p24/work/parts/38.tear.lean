-- a card goes its steps: whether it tears
def sp_by (Q : Nat → Int) (th s : Nat) : Int := if Q s < (th : Int) then (th : Int) - Q s else 0
def sp_pull (pl : Nat) (x : Int) : Option Int → Bool
  | none => false
  | some b => decide ((pl : Int) < x - b ∨ (pl : Int) < b - x)
def sp_tear (Q : Nat → Int) (th st pl : Nat) : Nat → Nat → Option Int → Nat × Bool
  | 0, s, _ => (s, false)
  | n + 1, s, pr => if (decide ((st : Int) < sp_by Q th s) || sp_pull pl (sp_by Q th s) pr) = true then (s + 1, true) else sp_tear Q th st pl n (s + 1) (some (sp_by Q th s))
theorem sp_tear_t {Q : Nat → Int} {th st pl n s : Nat} {pr : Option Int} (h : (decide ((st : Int) < sp_by Q th s) || sp_pull pl (sp_by Q th s) pr) = true) : sp_tear Q th st pl (n + 1) s pr = (s + 1, true) := by
  unfold sp_tear
  rw [if_pos h]
theorem sp_tear_f {Q : Nat → Int} {th st pl n s : Nat} {pr : Option Int} (h : ¬ (decide ((st : Int) < sp_by Q th s) || sp_pull pl (sp_by Q th s) pr) = true) : sp_tear Q th st pl (n + 1) s pr = sp_tear Q th st pl n (s + 1) (some (sp_by Q th s)) := by
  rw [sp_tear, if_neg h]
theorem sp_tear_bd (Q : Nat → Int) (th st pl : Nat) : ∀ (n s : Nat) (pr : Option Int), s ≤ (sp_tear Q th st pl n s pr).1 ∧ (sp_tear Q th st pl n s pr).1 ≤ s + n
  | 0, s, pr => by unfold sp_tear; dsimp only; omega
  | n + 1, s, pr => by
    unfold sp_tear
    split
    · dsimp only; omega
    · have := sp_tear_bd Q th st pl n (s + 1) (some (sp_by Q th s))
      omega
def QB (Q : Nat → Int) (T : Nat) : Prop := 0 < T ∧ T ≤ 552 ∧ (∀ s, -100 ≤ Q s ∧ Q s ≤ 100) ∧ ∀ s, Q s = Q (s % T)
theorem sp_by_bd {Q : Nat → Int} {T th s : Nat} (h : QB Q T) (hth : th ≤ 30) : 0 ≤ sp_by Q th s ∧ sp_by Q th s ≤ 130 := by
  have := h.2.2.1 s
  unfold sp_by
  split <;> omega
def sp_prb (before : Int32) : Option Int → Prop
  | none => True
  | some b => before.toInt = b ∧ 0 ≤ b ∧ b ≤ 200
theorem s_tears_loop {N T th st pl steps : Nat} {tp : Nat → Int32} {Q : Nat → Int} (hQ : PQ tp Q T) (hB : QB Q T) (hth : th ≤ 30) (hst : st ≤ 30) (hpl : pl ≤ 30) (hsteps : steps ≤ 1000) : ∀ (n j s : Nat) (pr : Option Int) (x5 : Int32), j ≤ steps → steps - j < n → s + (steps - j) ≤ 20000 → (j = 0 ↔ pr = none) → sp_prb x5 pr →
    f_X5_tears_6 N n (nI steps) (nI th) (nI st) (nI pl) x5 (nI j) (nI T) (nI (s % T)) (nI s) tp = some (nI (if (sp_tear Q th st pl (steps - j) s pr).2 then 1 else 0), nI ((sp_tear Q th st pl (steps - j) s pr).1 % T), nI (sp_tear Q th st pl (steps - j) s pr).1) := by
  obtain ⟨h0, hT, hq⟩ := id hQ
  intro n
  induction n with
  | zero => intro j s pr x5 h1 h2; omega
  | succ n ih =>
    intro j s pr x5 h1 h2 hs hj hpr
    show b_X5_tears_6 N (f_X5_tears_6 N n) (nI steps) (nI th) (nI st) (nI pl) x5 (nI j) (nI T) (nI (s % T)) (nI s) tp = _
    unfold b_X5_tears_6
    have hm := Nat.mod_lt s h0
    by_cases hjs : j = steps
    · rw [if_pos (by rw [nI_leI (by omega) (by omega)]; omega), hjs, Nat.sub_self]
      rfl
    · rw [if_neg (by rw [nI_leI (by omega) (by omega)]; omega), s_press (by omega), k_c1_some, k_let_eq, s_next (by omega) (by omega), k_c1_some, k_let_eq, q_nx h0]
      simp only [q_lit, nI_add]
      have hby := sp_by_bd (s := s) hB hth
      have e1 : (nI th - tp (s % T)).toInt = (th : Int) - Q s := by
        have hb := (hq (s % T) hm).2
        rw [q_sub (by rw [nI_toInt (by omega), (hq _ hm).1]; omega) (by rw [nI_toInt (by omega), (hq _ hm).1]; omega), nI_toInt (by omega), (hq _ hm).1, ← hB.2.2.2 s]
      have eb : (k_max (nI 0) (nI th - tp (s % T))).toInt = sp_by Q th s := by
        rw [q_max, e1, nI_toInt (by omega)]
        unfold sp_by
        split <;> split <;> omega
      generalize k_max (nI 0) (nI th - tp (s % T)) = by_ at eb ⊢
      have hc : nI st < by_ ↔ (st : Int) < sp_by Q th s := by rw [Int32.lt_iff_toInt_lt, nI_toInt (by omega), eb]
      have hnext : f_X5_tears_6 N n (nI steps) (nI th) (nI st) (nI pl) by_ (nI (j + 1)) (nI T) (nI ((s + 1) % T)) (nI (s + 1)) tp = some (nI (if (sp_tear Q th st pl (steps - (j + 1)) (s + 1) (some (sp_by Q th s))).2 then 1 else 0), nI ((sp_tear Q th st pl (steps - (j + 1)) (s + 1) (some (sp_by Q th s))).1 % T), nI (sp_tear Q th st pl (steps - (j + 1)) (s + 1) (some (sp_by Q th s))).1) :=
        ih (j + 1) (s + 1) (some (sp_by Q th s)) by_ (by omega) (by omega) (by omega) ⟨fun q => by omega, fun q => by cases q⟩ ⟨eb, by omega, by omega⟩
      rw [show steps - j = (steps - (j + 1)) + 1 by omega]
      unfold sp_tear
      simp only [k_let_eq, nI_add]
      by_cases hj0 : j = 0
      · have hp : pr = none := hj.mp hj0
        subst hp
        rw [if_pos (by rw [nI_leI (by omega) (by omega)]; omega)]
        simp only [sp_pull, Bool.or_false, decide_eq_true_eq]
        by_cases hcc : (st : Int) < sp_by Q th s
        · rw [if_pos (hc.mpr hcc), if_pos hcc]; rfl
        · rw [if_neg (fun q => hcc (hc.mp q)), if_neg hcc]; exact hnext
      · rw [if_neg (by rw [nI_leI (by omega) (by omega)]; omega)]
        cases pr with
        | none => exact absurd (hj.mpr rfl) hj0
        | some b =>
          obtain ⟨hp1, hp2, hp3⟩ := hpr
          have ea := s_abs eb hp1 (by omega) (by omega) (by omega) (by omega)
          have hle : k_abs (by_ - x5) ≤ nI pl ↔ ¬ ((pl : Int) < sp_by Q th s - b ∨ (pl : Int) < b - sp_by Q th s) := by
            rw [Int32.le_iff_toInt_le, nI_toInt (by omega), ea]
            split <;> omega
          by_cases hpp : (pl : Int) < sp_by Q th s - b ∨ (pl : Int) < b - sp_by Q th s
          · have hcond : (decide ((st : Int) < sp_by Q th s) || sp_pull pl (sp_by Q th s) (some b)) = true := by
              simp only [sp_pull, decide_eq_true hpp, Bool.or_true]
            rw [if_neg (fun q => (hle.mp q) hpp), if_pos hcond]
            split <;> rfl
          · rw [if_pos (hle.mpr hpp)]
            simp only [sp_pull, decide_eq_false hpp, Bool.or_false, decide_eq_true_eq]
            by_cases hcc : (st : Int) < sp_by Q th s
            · rw [if_pos (hc.mpr hcc), if_pos hcc]; rfl
            · rw [if_neg (fun q => hcc (hc.mp q)), if_neg hcc]; exact hnext
theorem s_tears {N T th st pl steps s : Nat} {tp : Nat → Int32} {Q : Nat → Int} (hN : 20000 ≤ N) (hQ : PQ tp Q T) (hB : QB Q T) (hth : th ≤ 30) (hst : st ≤ 30) (hpl : pl ≤ 30) (hsteps : steps ≤ 1000) (hs : s + steps ≤ 20000) :
    p_X5_tears N (nI steps) (nI th) (nI st) (nI pl) (nI T) (nI (s % T)) (nI s) tp = some (nI (if (sp_tear Q th st pl steps s none).2 then 1 else 0), nI ((sp_tear Q th st pl steps s none).1 % T), nI (sp_tear Q th st pl steps s none).1) := by
  unfold p_X5_tears
  exact s_tears_loop hQ hB hth hst hpl hsteps N 0 s none 0 (by omega) (by omega) (by omega) ⟨fun _ => rfl, fun _ => rfl⟩ trivial
-- the reference's step
def sp_ue (ue : Int32) : Option Int → Prop
  | none => ue = -nI 6
  | some b => ue.toInt = b ∧ 0 ≤ b ∧ b ≤ 200
theorem s_rtears {N th st pl s : Nat} {w : Nat → Int32} {Q : Nat → Int} {T : Nat} (us up ue ut um : Int32) (hB : QB Q T) (hth : th ≤ 30) (hst : st ≤ 30) (hpl : pl ≤ 30) (hws : w 5 = nI st) (hwp : w 1 = nI pl) {y : Int32} (hy : y.toInt = Q s) (pr : Option Int) (hpr : sp_ue ue pr) :
    ∃ ue', p_X7_tears N (nI th) y us up ue ut um w = some (nI (if (decide ((st : Int) < sp_by Q th s) || sp_pull pl (sp_by Q th s) pr) = true then 1 else 0), ue') ∧ sp_ue ue' (some (sp_by Q th s)) := by
  have hb := hB.2.2.1 s
  have hby := sp_by_bd (s := s) hB hth
  have key : ∀ t0 : Int32, t0.toInt = sp_by Q th s → b_X7_tears_12 N t0 us up ue ut um w = some (nI (if (decide ((st : Int) < sp_by Q th s) || sp_pull pl (sp_by Q th s) pr) = true then 1 else 0), t0) := by
    intro t0 ht
    have hc : nI st < t0 ↔ (st : Int) < sp_by Q th s := by rw [Int32.lt_iff_toInt_lt, nI_toInt (by omega), ht]
    unfold b_X7_tears_12
    simp only [q_lit]
    cases pr with
    | none =>
      have hpr : ue = -nI 6 := hpr
      rw [if_pos hpr, k_ld_nI (by omega) (by omega), hws]
      simp only [sp_pull, Bool.or_false, decide_eq_true_eq]
      by_cases hcc : (st : Int) < sp_by Q th s
      · rw [if_pos (hc.mpr hcc), if_pos hcc]
      · rw [if_neg (fun q => hcc (hc.mp q)), if_neg hcc]
    | some b =>
      obtain ⟨hp1, hp2, hp3⟩ := hpr
      rw [if_neg (fun q => by rw [q, q_neg (by omega)] at hp1; omega)]
      obtain ⟨z, ez, hz⟩ := s_apart (N := N) ht hp1 (by omega) (by omega) (by omega) (by omega)
      rw [ez, k_c1_some, k_ld_nI (by omega) (by omega), hwp, k_ld_nI (by omega) (by omega), hws]
      have hle : z ≤ nI pl ↔ ¬ ((pl : Int) < sp_by Q th s - b ∨ (pl : Int) < b - sp_by Q th s) := by
        rw [Int32.le_iff_toInt_le, nI_toInt (by omega), hz]
        split <;> omega
      by_cases hpp : (pl : Int) < sp_by Q th s - b ∨ (pl : Int) < b - sp_by Q th s
      · have hcond : (decide ((st : Int) < sp_by Q th s) || sp_pull pl (sp_by Q th s) (some b)) = true := by
          simp only [sp_pull, decide_eq_true hpp, Bool.or_true]
        rw [if_neg (fun q => (hle.mp q) hpp), if_pos hcond, k_ld_nI (by omega) (by omega), hws]
        split <;> rfl
      · rw [if_pos (hle.mpr hpp)]
        simp only [sp_pull, decide_eq_false hpp, Bool.or_false, decide_eq_true_eq]
        by_cases hcc : (st : Int) < sp_by Q th s
        · rw [if_pos (hc.mpr hcc), if_pos hcc]
        · rw [if_neg (fun q => hcc (hc.mp q)), if_neg hcc]
  unfold p_X7_tears
  by_cases hq : nI th ≤ y
  · rw [if_pos hq]
    rw [Int32.le_iff_toInt_le, nI_toInt (by omega), hy] at hq
    have e : sp_by Q th s = 0 := by unfold sp_by; rw [if_neg (by omega)]
    exact ⟨_, key 0 (by rw [e]; rfl), by rw [e]; rfl, by omega, by omega⟩
  · rw [if_neg hq]
    rw [Int32.le_iff_toInt_le, nI_toInt (by omega), hy] at hq
    have e : (nI th - y).toInt = sp_by Q th s := by
      rw [q_sub (by rw [nI_toInt (by omega), hy]; omega) (by rw [nI_toInt (by omega), hy]; omega), nI_toInt (by omega), hy]
      unfold sp_by
      rw [if_pos (by omega)]
    exact ⟨_, key _ e, e, by omega, by omega⟩
theorem QB_q {c w : Nat → Int32} {u l a b : Nat} (h : PC c w u l a b) (o g : Nat) (hg : g ≤ 30) : QB (fun s => (g : Int) + sp_q w u l o a b s) (Nat.lcm a b) := by
  obtain ⟨-, ⟨a1, a2, -, -⟩, ⟨b1, b2, -, -⟩, -, -⟩ := id h
  obtain ⟨T0, T1⟩ := q_T a1 a2 b1 b2
  refine ⟨T0, T1, fun s => ?_, fun s => ?_⟩
  · have := sp_q_bd h o s
    dsimp only
    omega
  · unfold sp_q
    dsimp only
    rw [Nat.mod_mod_of_dvd s (Nat.dvd_lcm_left a b)]
    have e : (s % Nat.lcm a b + o) % b = (s + o) % b := by
      rw [Nat.add_mod, Nat.mod_mod_of_dvd s (Nat.dvd_lcm_right a b), ← Nat.add_mod]
    rw [e]
